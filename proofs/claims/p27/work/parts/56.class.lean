def s_X6_hungerOfTrial_c58 (τ_2 : St) : Int32 → Int32 × St := fun x9 => match x9 with
  | v1_3 => (v1_3, τ_2)
def s_X6_hungerOfTrial_l58 (τ_2 : St) (k_3 : Nat) : Int32 → Int32 := fun x9 => match x9 with
  | v1_3 => (if (τ_2 604 k_3) = (0 : Int32) then (v1_3 + (0 : Int32)) else (v1_3 + (τ_2 (620 + k_3) ((τ_2 604 k_3).toNatClampNeg))))
def s_X6_hungerOfTrial_c23  : St → Int32 × St := fun x9 => match x9 with
  | τ_2 => (s_X6_hungerOfTrial_c58 τ_2 (iter (s_X6_hungerOfTrial_l58 τ_2) ((6 : Int32).toNatClampNeg - 0) 0 (0 : Int32)))
def s_X6_hungerOfTrial_l23  (k_2 : Nat) : St → St := fun x9 => match x9 with
  | τ_2 => (put τ_2 604 ((τ_2 602 k_2).toNatClampNeg) ((τ_2 604 ((τ_2 602 k_2).toNatClampNeg)) ||| ((1 : Int32) <<< ((nI k_2) &&& 31))))
def s_X6_hungerOfTrial_c2  : St → Int32 × St := fun x9 => match x9 with
  | τ_1 => (s_X6_hungerOfTrial_c23 (iter s_X6_hungerOfTrial_l23 ((s_X6_slots τ_1).toNatClampNeg - 0) 0 τ_1))
def s_X6_hungerOfTrial_l2  (k_1 : Nat) : St → St := fun x9 => match x9 with
  | τ_1 => (put τ_1 604 k_1 (0 : Int32))
def s_X6_hungerOfTrial (σ : St) : Int32 × St := (s_X6_hungerOfTrial_c2 (iter s_X6_hungerOfTrial_l2 ((6 : Int32).toNatClampNeg - 0) 0 σ))
theorem fr_s_X6_hungerOfTrial_c58 (τ_2 : St) (s : Int32) {f : Nat} (h604 : f ≠ 604) : (s_X6_hungerOfTrial_c58 τ_2 s).2 f = τ_2 f := by
  unfold s_X6_hungerOfTrial_c58
  all_goals ((try dsimp only) <;> ((repeat' split) <;> (try simp only [put_fr, ne_eq, not_false_eq_true, h604])))
theorem fr_s_X6_hungerOfTrial_c23  (s : St) {f : Nat} (h604 : f ≠ 604) : (s_X6_hungerOfTrial_c23 s).2 f = s f := by
  unfold s_X6_hungerOfTrial_c23
  all_goals ((try dsimp only) <;> ((repeat' split) <;> (try simp only [put_fr, ne_eq, not_false_eq_true, h604, fr_s_X6_hungerOfTrial_c58])))
theorem fr_s_X6_hungerOfTrial_l23  (k_2 : Nat) (s : St) {f : Nat} (h604 : f ≠ 604) : (s_X6_hungerOfTrial_l23 k_2 s) f = s f := by
  unfold s_X6_hungerOfTrial_l23
  all_goals ((try dsimp only) <;> ((repeat' split) <;> (try simp only [put_fr, ne_eq, not_false_eq_true, h604, fr_s_X6_hungerOfTrial_c58, fr_s_X6_hungerOfTrial_c23])))
theorem fri_s_X6_hungerOfTrial_l23  (n k : Nat) (s : St) {f : Nat} (h604 : f ≠ 604) : (iter s_X6_hungerOfTrial_l23 n k s) f = s f := iter_fr (P := (fun s => s f)) (fun k s => fr_s_X6_hungerOfTrial_l23  k s h604) n k s
theorem fr_s_X6_hungerOfTrial_c2  (s : St) {f : Nat} (h604 : f ≠ 604) : (s_X6_hungerOfTrial_c2 s).2 f = s f := by
  unfold s_X6_hungerOfTrial_c2
  all_goals ((try dsimp only) <;> ((repeat' split) <;> (try simp only [put_fr, ne_eq, not_false_eq_true, h604, fr_s_X6_hungerOfTrial_c58, fr_s_X6_hungerOfTrial_c23, fri_s_X6_hungerOfTrial_l23])))
theorem fr_s_X6_hungerOfTrial_l2  (k_1 : Nat) (s : St) {f : Nat} (h604 : f ≠ 604) : (s_X6_hungerOfTrial_l2 k_1 s) f = s f := by
  unfold s_X6_hungerOfTrial_l2
  all_goals ((try dsimp only) <;> ((repeat' split) <;> (try simp only [put_fr, ne_eq, not_false_eq_true, h604, fr_s_X6_hungerOfTrial_c58, fr_s_X6_hungerOfTrial_c23, fri_s_X6_hungerOfTrial_l23, fr_s_X6_hungerOfTrial_c2])))
theorem fri_s_X6_hungerOfTrial_l2  (n k : Nat) (s : St) {f : Nat} (h604 : f ≠ 604) : (iter s_X6_hungerOfTrial_l2 n k s) f = s f := iter_fr (P := (fun s => s f)) (fun k s => fr_s_X6_hungerOfTrial_l2  k s h604) n k s
theorem fr_s_X6_hungerOfTrial (σ : St) {f : Nat} (h604 : f ≠ 604) : (s_X6_hungerOfTrial σ ).2 f = σ f := by
  unfold s_X6_hungerOfTrial
  all_goals ((try dsimp only) <;> ((repeat' split) <;> (try simp only [put_fr, ne_eq, not_false_eq_true, h604, fr_s_X6_hungerOfTrial_c58, fr_s_X6_hungerOfTrial_c23, fri_s_X6_hungerOfTrial_l23, fr_s_X6_hungerOfTrial_c2, fri_s_X6_hungerOfTrial_l2])))
set_option maxHeartbeats 1000000 in
set_option maxRecDepth 100000 in
theorem k_X6_hungerOfTrial (l : Launch) (D : va_G) (ca : Nat → ClassId) (h : Nat) (ad : Nat → Nat) (pa : Nat → Nat → Nat) (tb : Nat) (σ : St) (sz : Nat) (hI : IX σ) (hTR : TR σ) (R1 : Int32) (R2 : St) (hR : s_X6_hungerOfTrial σ = (R1, R2)) : Met l yX6_hungerOfTrial wsX6_hungerOfTrial ({ frames := 2, cells := 0, slots := 0, locals := 33 }) (va_Pc [.ref (ad 809)] (cw_pre D ca (WC ca h ad pa σ) sz tb)) (va_Qi (fun (r : Int32) (_ : Unit) => r = R1) (fun (_ : Unit) (t : State) => pw_post D ca (WC ca h ad pa σ) sz (WC ca h ad pa R2) t ∧ IX R2) (va_A (WC ca h ad pa σ) sz)) 0 0 (va_A (WC ca h ad pa σ) sz) := by
  refine Met.ofW (cc := cX6_hungerOfTrial) (maxL := 3) (ret := (some .int)) (by decide) rfl ?_
  intro p e s m args below meth c s₁ B hml hv
  obtain ⟨rfl, ⟨hsz, hP, hK, hD0⟩, hZ⟩ := hv
  have hx := B.exec
  have hb := B.bytes
  have hr := B.returns
  have hts := atoms_spec (ws := wsX6_hungerOfTrial) B.pre
  have hown : s.vm.findClass RX6 = some m.cls := findClass_of_methodNamed B.named
  have hlocks := B.notSynchronized
  have hu6 : ∀ w ∈ u_ws RX6 TX6 10, w ∈ wsX6_hungerOfTrial := fun w h => List.mem_cons_of_mem _ (uw6 w h)
  subst hsz
  have hD := hD0.self (sz := s.heap.size)
  obtain ⟨A, hAe⟩ : ∃ A, A = va_A (WC ca h ad pa σ) s.heap.size := ⟨_, rfl⟩
  rw [← hAe] at hD hZ ⊢
  have hA : ∀ q : Nat, s.heap.size ≤ q → A q := fun q h => by rw [hAe]; exact Or.inr h
  have hS : va_S A s.heap s.heap [] := va_S.rf
  have hl := lv_entry ([.ref (ad 809)]) (n := 3) (Nat.le_of_ble_eq_true rfl)
  rw [lg_entry_eq]
  generalize (lg_sl ([.ref (ad 809)]) ++ List.replicate (3 - (lg_sl ([.ref (ad 809)])).length) Slot.unset).toArray = ls at hl ⊢
  have hl : lv_has ls 3 [(0, .ref (ad 809))] := hl
  obtain ⟨H, hH⟩ : ∃ H, H = s.heap := ⟨_, rfl⟩
  have hP : va_P D vwCl (WC ca h ad pa σ) H := by rw [hH]; exact hP
  have hS : va_S A s.heap H [] := by rw [hH]; exact hS
  obtain ⟨QQ, hQ⟩ : ∃ Q9, Q9 = MQ below (va_Qi (fun (r : Int32) (_ : Unit) => r = R1) (fun (_ : Unit) (t : State) => pw_post D ca (WC ca h ad pa σ) s.heap.size (WC ca h ad pa R2) t ∧ IX R2) A) ([.ref (ad 809)] : List Value).toArray s 0 0 A := ⟨_, rfl⟩
  rw [← hQ]
  show W _ _ _ _ _ _ _ _ _ _ s.heap _ _ _ _ _
  rw [← hH]
  delta s_X6_hungerOfTrial at hR
  refine lv_iconst (v := (0 : Int32)) hx hb dX6_hungerOfTrial_0 (by decide) ?_
  refine lv_istore_n (lv' := [(1, .int (0 : Int32)), (0, .ref (ad 809))]) hx hb dX6_hungerOfTrial_1 rfl hl (by decide) rfl (fun ls hl => ?_)
  have hE_1 : ∀ (τ_1 : St) (hI_1 : IX τ_1) (hf_1 : τ_1 811 = σ 811 ∧ τ_1 812 = σ 812 ∧ τ_1 814 = σ 814 ∧ τ_1 815 = σ 815 ∧ τ_1 602 = σ 602 ∧ τ_1 607 = σ 607 ∧ τ_1 608 = σ 608) (hw_1 : ∀ p : Nat, p < 6 → 0 ≤ (τ_1 604 p).toInt ∧ (τ_1 604 p).toInt < 16) (H : Heap) (locs : List Loc) (ls : Array Slot), s_X6_hungerOfTrial_c2 τ_1 = (R1, R2) → va_P D vwCl (WC ca h ad pa τ_1) H → va_D A (WC ca h ad pa τ_1) → va_S A s.heap H locs → lv_has ls 3 [(0, .ref (ad 809))] → W p l e ((headSpec wsX6_hungerOfTrial ({ frames := 2, cells := 0, slots := 0, locals := 33 })).room) s m ([.ref (ad 809)] : List Value).toArray below meth c H locs 0 0 QQ (F0 m 21 ls []) := by
    intro τ_1 hI_1 hf_1 hw_1 H locs ls hR hP hD hS hl
    have hR : (s_X6_hungerOfTrial_c23 (iter s_X6_hungerOfTrial_l23 ((s_X6_slots τ_1).toNatClampNeg - 0) 0 τ_1)) = (R1, R2) := hR
    refine lv_iconst (v := (0 : Int32)) hx hb dX6_hungerOfTrial_21 (by decide) ?_
    refine lv_istore_n (lv' := [(1, .int (0 : Int32)), (0, .ref (ad 809))]) hx hb dX6_hungerOfTrial_22 rfl hl (by decide) rfl (fun ls hl => ?_)
    have hE_2 : ∀ (τ_2 : St) (hI_2 : IX τ_2) (hf_2 : τ_2 811 = σ 811 ∧ τ_2 812 = σ 812 ∧ τ_2 814 = σ 814 ∧ τ_2 815 = σ 815 ∧ τ_2 602 = σ 602 ∧ τ_2 607 = σ 607 ∧ τ_2 608 = σ 608) (hw_2 : ∀ p : Nat, p < 6 → 0 ≤ (τ_2 604 p).toInt ∧ (τ_2 604 p).toInt < 16) (H : Heap) (locs : List Loc) (ls : Array Slot), s_X6_hungerOfTrial_c23 τ_2 = (R1, R2) → va_P D vwCl (WC ca h ad pa τ_2) H → va_D A (WC ca h ad pa τ_2) → va_S A s.heap H locs → lv_has ls 3 [(0, .ref (ad 809))] → W p l e ((headSpec wsX6_hungerOfTrial ({ frames := 2, cells := 0, slots := 0, locals := 33 })).room) s m ([.ref (ad 809)] : List Value).toArray below meth c H locs 0 0 QQ (F0 m 54 ls []) := by
      intro τ_2 hI_2 hf_2 hw_2 H locs ls hR hP hD hS hl
      have hR : (s_X6_hungerOfTrial_c58 τ_2 (iter (s_X6_hungerOfTrial_l58 τ_2) ((6 : Int32).toNatClampNeg - 0) 0 (0 : Int32))) = (R1, R2) := hR
      refine lv_iconst (v := (0 : Int32)) hx hb dX6_hungerOfTrial_54 (by decide) ?_
      refine lv_istore_n (lv' := [(1, .int (0 : Int32)), (0, .ref (ad 809))]) hx hb dX6_hungerOfTrial_55 rfl hl (by decide) rfl (fun ls hl => ?_)
      refine lv_iconst (v := (0 : Int32)) hx hb dX6_hungerOfTrial_56 (by decide) ?_
      refine lv_istore_n (lv' := [(2, .int (0 : Int32)), (1, .int (0 : Int32)), (0, .ref (ad 809))]) hx hb dX6_hungerOfTrial_57 rfl hl (by decide) rfl (fun ls hl => ?_)
      have hE_3 : ∀ (v1_3 : Int32) (H : Heap) (locs : List Loc) (ls : Array Slot), s_X6_hungerOfTrial_c58 τ_2 v1_3 = (R1, R2) → va_P D vwCl (WC ca h ad pa τ_2) H → va_D A (WC ca h ad pa τ_2) → va_S A s.heap H locs → lv_has ls 3 [(1, .int v1_3)] → W p l e ((headSpec wsX6_hungerOfTrial ({ frames := 2, cells := 0, slots := 0, locals := 33 })).room) s m ([.ref (ad 809)] : List Value).toArray below meth c H locs 0 0 QQ (F0 m 99 ls []) := by
        intro v1_3 H locs ls hR hP hD hS hl
        have hR : (v1_3, τ_2) = (R1, R2) := hR
        refine lv_iload_n hx hb dX6_hungerOfTrial_99 rfl (lv_at hl 0 rfl) ?_
        have hI9 : IX τ_2 := hI_2
        obtain ⟨rfl, rfl⟩ := Prod.mk.inj (show (v1_3, τ_2) = (R1, R2) from hR)
        rw [hQ]
        exact W.iret (v := v1_3) hx hb hr (fun t ht hW => ⟨⟨v1_3, (), rfl, rfl, ⟨by rw [ht]; exact hP, va_K.moved hW.alike hK, by rw [← hAe]; exact hD⟩, hI9⟩, hS.F ht⟩) hS.2.2 dX6_hungerOfTrial_100
      have hL_3 : ∀ (n k_3 : Nat) (v1_3 : Int32) (hk_3 : lpk (6 : Int32) k_3 n) (H : Heap) (locs : List Loc) (ls : Array Slot), s_X6_hungerOfTrial_c58 τ_2 (iter (s_X6_hungerOfTrial_l58 τ_2) n k_3 v1_3) = (R1, R2) → va_P D vwCl (WC ca h ad pa τ_2) H → va_D A (WC ca h ad pa τ_2) → va_S A s.heap H locs → lv_has ls 3 [(2, .int (nI k_3)), (1, .int v1_3), (0, .ref (ad 809))] → W p l e ((headSpec wsX6_hungerOfTrial ({ frames := 2, cells := 0, slots := 0, locals := 33 })).room) s m ([.ref (ad 809)] : List Value).toArray below meth c H locs 0 0 QQ (F0 m 58 ls []) := by
        intro n
        induction n with
        | zero =>
          intro k_3 v1_3 hk_3 H locs ls hR hP hD hS hl
          refine lv_iload_n hx hb dX6_hungerOfTrial_58 rfl (lv_at hl 0 rfl) ?_
          refine lv_bipush (v := (6 : Int32)) hx hb dX6_hungerOfTrial_59 (by decide) ?_
          refine lv_icmp_ge (tgt := 99) hx hb dX6_hungerOfTrial_61 (by decide) (fun _ => ?_) (fun c_4 => absurd (ge_end hk_3) c_4)
          exact hE_3 v1_3 _ _ _ hR hP hD hS (lv_sub hl [1] rfl)
        | succ n ih =>
          intro k_3 v1_3 hk_3 H locs ls hR hP hD hS hl
          obtain ⟨S_3, hB_3⟩ : ∃ s9, s_X6_hungerOfTrial_l58 τ_2 k_3 v1_3 = s9 := ⟨_, rfl⟩
          have hR : s_X6_hungerOfTrial_c58 τ_2 (iter (s_X6_hungerOfTrial_l58 τ_2) n (k_3 + 1) S_3) = (R1, R2) := by rw [← hB_3]; exact hR
          have hB_3 : (if (τ_2 604 k_3) = (0 : Int32) then (v1_3 + (0 : Int32)) else (v1_3 + (τ_2 (620 + k_3) ((τ_2 604 k_3).toNatClampNeg)))) = S_3 := hB_3
          refine lv_iload_n hx hb dX6_hungerOfTrial_58 rfl (lv_at hl 0 rfl) ?_
          refine lv_bipush (v := (6 : Int32)) hx hb dX6_hungerOfTrial_59 (by decide) ?_
          refine lv_icmp_ge (tgt := 99) hx hb dX6_hungerOfTrial_61 (by decide) (fun c_5 => absurd c_5 (ge_go hk_3)) (fun _ => ?_)
          refine lv_iload_n hx hb dX6_hungerOfTrial_64 rfl (lv_at hl 1 rfl) ?_
          refine lv_aload_n hx hb dX6_hungerOfTrial_65 rfl (lv_at hl 2 rfl) ?_
          refine va_get (D := D) (ci := 6) (v := .ref (ad 604)) (C := RX6) (T := TX6) (N := 10) hx hb hts hu6 hown hK hP 5 wc_5 rfl 4 (by decide) (hts (.fieldLink RX6 26 "GrazeBook$Turns" "visitsOf" "[I") (List.mem_cons_of_mem _ mw_179)) (fun _ h9 => h9) rfl dX6_hungerOfTrial_66 ?_
          refine lv_iload_n hx hb dX6_hungerOfTrial_69 rfl (lv_at hl 0 rfl) ?_
          refine va_iald_k (k := k_3) (v := (τ_2 604 k_3)) hx hb hK hP 25 0 wc_25 rfl (ix_cl hk_3) rfl (ix_loop (N := 6) hk_3 (show 0 ≤ (6 : Int32).toInt ∧ (6 : Int32).toInt ≤ ((6 : Nat) : Int) by decide) (by decide) (by decide)) dX6_hungerOfTrial_70 ?_
          refine lv_if_ne (tgt := 78) hx hb dX6_hungerOfTrial_71 (by decide) (fun c_6 => ?_) (fun c_6 => ?_)
          · have hB_3 := (if_neg c_6).symm.trans hB_3
            refine lv_aload_n hx hb dX6_hungerOfTrial_78 rfl (lv_at hl 2 rfl) ?_
            refine va_get (D := D) (ci := 6) (v := .ref (ad 600)) (C := RX6) (T := TX6) (N := 10) hx hb hts hu6 hown hK hP 5 wc_5 rfl 0 (by decide) (hts (.fieldLink RX6 11 "GrazeBook$Turns" "hunger" "[[I") (List.mem_cons_of_mem _ mw_173)) (fun _ h9 => h9) rfl dX6_hungerOfTrial_79 ?_
            refine lv_iload_n hx hb dX6_hungerOfTrial_82 rfl (lv_at hl 0 rfl) ?_
            refine va_aldqA_k (k := k_3) (b := ad (620 + k_3)) hx hb hK hP 21 6 wc_21 rfl (ix_cl hk_3) (rf_at (g := fun i9 => ad (620 + i9)) (k_lt hk_3 (show 0 ≤ (6 : Int32).toInt ∧ (6 : Int32).toInt ≤ ((6 : Nat) : Int) by decide))) (ix_loop (N := 6) hk_3 (show 0 ≤ (6 : Int32).toInt ∧ (6 : Int32).toInt ≤ ((6 : Nat) : Int) by decide) (by decide) (by decide)) dX6_hungerOfTrial_83 ?_
            refine lv_aload_n hx hb dX6_hungerOfTrial_84 rfl (lv_at hl 2 rfl) ?_
            refine va_get (D := D) (ci := 6) (v := .ref (ad 604)) (C := RX6) (T := TX6) (N := 10) hx hb hts hu6 hown hK hP 5 wc_5 rfl 4 (by decide) (hts (.fieldLink RX6 26 "GrazeBook$Turns" "visitsOf" "[I") (List.mem_cons_of_mem _ mw_179)) (fun _ h9 => h9) rfl dX6_hungerOfTrial_85 ?_
            refine lv_iload_n hx hb dX6_hungerOfTrial_88 rfl (lv_at hl 0 rfl) ?_
            refine va_iald_k (k := k_3) (v := (τ_2 604 k_3)) hx hb hK hP 25 0 wc_25 rfl (ix_cl hk_3) rfl (ix_loop (N := 6) hk_3 (show 0 ≤ (6 : Int32).toInt ∧ (6 : Int32).toInt ≤ ((6 : Nat) : Int) by decide) (by decide) (by decide)) dX6_hungerOfTrial_89 ?_
            refine va_iald_k (k := ((τ_2 604 k_3).toNatClampNeg)) (v := (τ_2 (620 + k_3) ((τ_2 604 k_3).toNatClampNeg))) hx hb hK hP (26 + k_3) 0 (wc_row (k_lt hk_3 (show 0 ≤ (6 : Int32).toInt ∧ (6 : Int32).toInt ≤ ((6 : Nat) : Int) by decide))) rfl rfl rfl (vp_in_iff.mpr (hw_2 k_3 (k_lt hk_3 (show 0 ≤ (6 : Int32).toInt ∧ (6 : Int32).toInt ≤ ((6 : Nat) : Int) by decide)))) dX6_hungerOfTrial_90 ?_
            refine lv_iadd hx hb dX6_hungerOfTrial_91 ?_
            refine lv_istore_n (lv' := [(1, .int (v1_3 + (τ_2 (620 + k_3) ((τ_2 604 k_3).toNatClampNeg)))), (2, .int (nI k_3)), (0, .ref (ad 809))]) hx hb dX6_hungerOfTrial_92 rfl hl (by decide) rfl (fun ls hl => ?_)
            refine lv_iinc (v := (nI (k_3 + 1))) (lv' := [(2, .int (nI (k_3 + 1))), (1, .int (v1_3 + (τ_2 (620 + k_3) ((τ_2 604 k_3).toNatClampNeg)))), (0, .ref (ad 809))]) hx hb dX6_hungerOfTrial_93 hl (k := 1) rfl (by rw [show Int32.ofInt 1 = 1 from by decide]; exact nI_1 _) (by decide) rfl (fun ls hl => ?_)
            refine lv_goto (tgt := 58) hx hb dX6_hungerOfTrial_96 (by decide) ?_
            subst hB_3
            exact ih (k_3 + 1) (v1_3 + (τ_2 (620 + k_3) ((τ_2 604 k_3).toNatClampNeg))) (ge_next hk_3)  _ _ _ hR hP hD hS (lv_sub hl [0, 1, 2] rfl)
          · have hB_3 := (if_pos c_6).symm.trans hB_3
            refine lv_iconst (v := (0 : Int32)) hx hb dX6_hungerOfTrial_74 (by decide) ?_
            refine lv_goto (tgt := 91) hx hb dX6_hungerOfTrial_75 (by decide) ?_
            refine lv_iadd hx hb dX6_hungerOfTrial_91 ?_
            refine lv_istore_n (lv' := [(1, .int (v1_3 + (0 : Int32))), (2, .int (nI k_3)), (0, .ref (ad 809))]) hx hb dX6_hungerOfTrial_92 rfl hl (by decide) rfl (fun ls hl => ?_)
            refine lv_iinc (v := (nI (k_3 + 1))) (lv' := [(2, .int (nI (k_3 + 1))), (1, .int (v1_3 + (0 : Int32))), (0, .ref (ad 809))]) hx hb dX6_hungerOfTrial_93 hl (k := 1) rfl (by rw [show Int32.ofInt 1 = 1 from by decide]; exact nI_1 _) (by decide) rfl (fun ls hl => ?_)
            refine lv_goto (tgt := 58) hx hb dX6_hungerOfTrial_96 (by decide) ?_
            subst hB_3
            exact ih (k_3 + 1) (v1_3 + (0 : Int32)) (ge_next hk_3)  _ _ _ hR hP hD hS (lv_sub hl [0, 1, 2] rfl)
      exact hL_3 _ 0 (0 : Int32) ⟨rfl, by decide⟩  _ _ _ hR hP hD hS (lv_sub hl [0, 1, 2] rfl)
    have hL_2 : ∀ (n k_2 : Nat) (τ_2 : St) (hk_2 : lpk (s_X6_slots τ_2) k_2 n) (hI_2 : IX τ_2) (hf_2 : τ_2 811 = σ 811 ∧ τ_2 812 = σ 812 ∧ τ_2 814 = σ 814 ∧ τ_2 815 = σ 815 ∧ τ_2 602 = σ 602 ∧ τ_2 607 = σ 607 ∧ τ_2 608 = σ 608) (hw_2 : ∀ p : Nat, p < 6 → 0 ≤ (τ_2 604 p).toInt ∧ (τ_2 604 p).toInt < 16) (H : Heap) (locs : List Loc) (ls : Array Slot), s_X6_hungerOfTrial_c23 (iter s_X6_hungerOfTrial_l23 n k_2 τ_2) = (R1, R2) → va_P D vwCl (WC ca h ad pa τ_2) H → va_D A (WC ca h ad pa τ_2) → va_S A s.heap H locs → lv_has ls 3 [(1, .int (nI k_2)), (0, .ref (ad 809))] → W p l e ((headSpec wsX6_hungerOfTrial ({ frames := 2, cells := 0, slots := 0, locals := 33 })).room) s m ([.ref (ad 809)] : List Value).toArray below meth c H locs 0 0 QQ (F0 m 23 ls []) := by
      intro n
      induction n with
      | zero =>
        intro k_2 τ_2 hk_2 hI_2 hf_2 hw_2 H locs ls hR hP hD hS hl
        refine lv_iload_n hx hb dX6_hungerOfTrial_23 rfl (lv_at hl 0 rfl) ?_
        refine lv_aload_n hx hb dX6_hungerOfTrial_24 rfl (lv_at hl 1 rfl) ?_
        have hF := pw_free hD hS hA
        refine va_calli (va_runV (As := []) (rest := [.int (nI k_2)]) ⟨hx, hb, hml, hown, hts⟩ (k_X6_slots l D ca h ad pa tb τ_2 H.size hI_2 _ rfl) (cwV 0 hts gX6_hungerOfTrial_X6_slots rfl rfl rfl (by decide +kernel) ⟨Nat.le_of_ble_eq_true rfl, Nat.le_of_ble_eq_true rfl⟩) ⟨cw_blind, va_recv hK hP (ci := 6) (q0 := 5) rfl wc_5, cw_give hP hK hD hZ hS hF⟩ rfl rfl hl.1 rfl (lv_room (Nat.le_of_ble_eq_true rfl)) dX6_hungerOfTrial_25 ⟨Nat.le_of_ble_eq_true rfl, Nat.le_of_ble_eq_true rfl⟩) hS (fun q _ h => hF q h) hF (fun r_7 u t H1 locs ht hvm hw hB hz1 hk1 hS => ?_)
        rw [hw]
        obtain ⟨hP, hD⟩ := pw_back hF ht hB
        clear hB hk1 hz1 hF
        generalize H1 = H at hP hS ⊢
        refine lv_icmp_ge (tgt := 54) hx hb dX6_hungerOfTrial_28 (by decide) (fun _ => ?_) (fun c_8 => absurd (ge_end hk_2) c_8)
        exact hE_2 τ_2 hI_2 hf_2 hw_2 _ _ _ hR hP hD hS (lv_sub hl [1] rfl)
      | succ n ih =>
        intro k_2 τ_2 hk_2 hI_2 hf_2 hw_2 H locs ls hR hP hD hS hl
        obtain ⟨S_2, hB_2⟩ : ∃ s9, s_X6_hungerOfTrial_l23 k_2 τ_2 = s9 := ⟨_, rfl⟩
        have hR : s_X6_hungerOfTrial_c23 (iter s_X6_hungerOfTrial_l23 n (k_2 + 1) S_2) = (R1, R2) := by rw [← hB_2]; exact hR
        have hB_2 : (put τ_2 604 ((τ_2 602 k_2).toNatClampNeg) ((τ_2 604 ((τ_2 602 k_2).toNatClampNeg)) ||| ((1 : Int32) <<< ((nI k_2) &&& 31)))) = S_2 := hB_2
        refine lv_iload_n hx hb dX6_hungerOfTrial_23 rfl (lv_at hl 0 rfl) ?_
        refine lv_aload_n hx hb dX6_hungerOfTrial_24 rfl (lv_at hl 1 rfl) ?_
        have hF := pw_free hD hS hA
        refine va_calli (va_runV (As := []) (rest := [.int (nI k_2)]) ⟨hx, hb, hml, hown, hts⟩ (k_X6_slots l D ca h ad pa tb τ_2 H.size hI_2 _ rfl) (cwV 0 hts gX6_hungerOfTrial_X6_slots rfl rfl rfl (by decide +kernel) ⟨Nat.le_of_ble_eq_true rfl, Nat.le_of_ble_eq_true rfl⟩) ⟨cw_blind, va_recv hK hP (ci := 6) (q0 := 5) rfl wc_5, cw_give hP hK hD hZ hS hF⟩ rfl rfl hl.1 rfl (lv_room (Nat.le_of_ble_eq_true rfl)) dX6_hungerOfTrial_25 ⟨Nat.le_of_ble_eq_true rfl, Nat.le_of_ble_eq_true rfl⟩) hS (fun q _ h => hF q h) hF (fun r_9 u t H1 locs ht hvm hw hB hz1 hk1 hS => ?_)
        rw [hw]
        obtain ⟨hP, hD⟩ := pw_back hF ht hB
        clear hB hk1 hz1 hF
        generalize H1 = H at hP hS ⊢
        refine lv_icmp_ge (tgt := 54) hx hb dX6_hungerOfTrial_28 (by decide) (fun c_10 => absurd c_10 (ge_go hk_2)) (fun _ => ?_)
        refine lv_aload_n hx hb dX6_hungerOfTrial_31 rfl (lv_at hl 1 rfl) ?_
        refine va_get (D := D) (ci := 6) (v := .ref (ad 604)) (C := RX6) (T := TX6) (N := 10) hx hb hts hu6 hown hK hP 5 wc_5 rfl 4 (by decide) (hts (.fieldLink RX6 26 "GrazeBook$Turns" "visitsOf" "[I") (List.mem_cons_of_mem _ mw_179)) (fun _ h9 => h9) rfl dX6_hungerOfTrial_32 ?_
        refine lv_aload_n hx hb dX6_hungerOfTrial_35 rfl (lv_at hl 1 rfl) ?_
        refine va_get (D := D) (ci := 6) (v := .ref (ad 602)) (C := RX6) (T := TX6) (N := 10) hx hb hts hu6 hown hK hP 5 wc_5 rfl 2 (by decide) (hts (.fieldLink RX6 20 "GrazeBook$Turns" "trial" "[I") (List.mem_cons_of_mem _ mw_177)) (fun _ h9 => h9) rfl dX6_hungerOfTrial_36 ?_
        refine lv_iload_n hx hb dX6_hungerOfTrial_39 rfl (lv_at hl 0 rfl) ?_
        refine va_iald_k (k := k_2) (v := (τ_2 602 k_2)) hx hb hK hP 23 0 wc_23 rfl (ix_cl hk_2) rfl (ix_loop (N := 4) hk_2 (slots_ok hI_2) (by decide) (by decide)) dX6_hungerOfTrial_40 ?_
        refine lv_dup2_11 hx hb dX6_hungerOfTrial_41 rfl rfl ?_
        refine va_iald_k (k := ((τ_2 602 k_2).toNatClampNeg)) (v := (τ_2 604 ((τ_2 602 k_2).toNatClampNeg))) hx hb hK hP 25 0 wc_25 rfl rfl rfl (by rw [congrFun (hf_2.2.2.2.2.1) k_2]; exact hTR k_2 (by rw [← slots_cast hf_2.2.2.2.2.2.1 hf_2.2.2.2.2.2.2]; exact k_ltb hk_2)) dX6_hungerOfTrial_42 ?_
        refine lv_iconst (v := (1 : Int32)) hx hb dX6_hungerOfTrial_43 (by decide) ?_
        refine lv_iload_n hx hb dX6_hungerOfTrial_44 rfl (lv_at hl 0 rfl) ?_
        refine lv_ishl hx hb dX6_hungerOfTrial_45 ?_
        refine lv_ior hx hb dX6_hungerOfTrial_46 ?_
        refine va_iast_k (k := ((τ_2 602 k_2).toNatClampNeg)) hx hb hK hP hD hS 25 0 wc_25 rfl rfl (by rw [congrFun (hf_2.2.2.2.2.1) k_2]; exact hTR k_2 (by rw [← slots_cast hf_2.2.2.2.2.2.1 hf_2.2.2.2.2.2.2]; exact k_ltb hk_2)) dX6_hungerOfTrial_47 (fun H locs hP hD hS => ?_)
        rw [wc_s604] at hP hD
        refine lv_iinc (v := (nI (k_2 + 1))) (lv' := [(1, .int (nI (k_2 + 1))), (0, .ref (ad 809))]) hx hb dX6_hungerOfTrial_48 hl (k := 0) rfl (by rw [show Int32.ofInt 1 = 1 from by decide]; exact nI_1 _) (by decide) rfl (fun ls hl => ?_)
        refine lv_goto (tgt := 23) hx hb dX6_hungerOfTrial_51 (by decide) ?_
        subst hB_2
        exact ih (k_2 + 1) (put τ_2 604 ((τ_2 602 k_2).toNatClampNeg) ((τ_2 604 ((τ_2 602 k_2).toNatClampNeg)) ||| ((1 : Int32) <<< ((nI k_2) &&& 31)))) (ge_next hk_2) hI_2 (⟨hf_2.1, hf_2.2.1, hf_2.2.2.1, hf_2.2.2.2.1, hf_2.2.2.2.2.1, hf_2.2.2.2.2.2.1, hf_2.2.2.2.2.2.2⟩) (upd_all (P := fun x => 0 ≤ x.toInt ∧ x.toInt < 16) hw_2 (or_ok (vw_at (x := (τ_2 602 k_2)) hw_2 (by rw [congrFun (hf_2.2.2.2.2.1) k_2]; exact hTR k_2 (by rw [← slots_cast hf_2.2.2.2.2.2.1 hf_2.2.2.2.2.2.2]; exact k_ltb hk_2))) (bit_ok (ix_loop (N := 4) hk_2 (slots_ok hI_2) (by decide) (by decide))))) _ _ _ hR hP hD hS (lv_sub hl [0, 1] rfl)
    exact hL_2 _ 0 τ_1 ⟨rfl, by decide⟩ hI_1 (⟨hf_1.1, hf_1.2.1, hf_1.2.2.1, hf_1.2.2.2.1, hf_1.2.2.2.2.1, hf_1.2.2.2.2.2.1, hf_1.2.2.2.2.2.2⟩) hw_1 _ _ _ hR hP hD hS (lv_sub hl [0, 1] rfl)
  have hL_1 : ∀ (n k_1 : Nat) (τ_1 : St) (hk_1 : lpk (6 : Int32) k_1 n) (hI_1 : IX τ_1) (hf_1 : τ_1 811 = σ 811 ∧ τ_1 812 = σ 812 ∧ τ_1 814 = σ 814 ∧ τ_1 815 = σ 815 ∧ τ_1 602 = σ 602 ∧ τ_1 607 = σ 607 ∧ τ_1 608 = σ 608) (hw_1 : ∀ p : Nat, p < k_1 → 0 ≤ (τ_1 604 p).toInt ∧ (τ_1 604 p).toInt < 16) (H : Heap) (locs : List Loc) (ls : Array Slot), s_X6_hungerOfTrial_c2 (iter s_X6_hungerOfTrial_l2 n k_1 τ_1) = (R1, R2) → va_P D vwCl (WC ca h ad pa τ_1) H → va_D A (WC ca h ad pa τ_1) → va_S A s.heap H locs → lv_has ls 3 [(1, .int (nI k_1)), (0, .ref (ad 809))] → W p l e ((headSpec wsX6_hungerOfTrial ({ frames := 2, cells := 0, slots := 0, locals := 33 })).room) s m ([.ref (ad 809)] : List Value).toArray below meth c H locs 0 0 QQ (F0 m 2 ls []) := by
    intro n
    induction n with
    | zero =>
      intro k_1 τ_1 hk_1 hI_1 hf_1 hw_1 H locs ls hR hP hD hS hl
      refine lv_iload_n hx hb dX6_hungerOfTrial_2 rfl (lv_at hl 0 rfl) ?_
      refine lv_bipush (v := (6 : Int32)) hx hb dX6_hungerOfTrial_3 (by decide) ?_
      refine lv_icmp_ge (tgt := 21) hx hb dX6_hungerOfTrial_5 (by decide) (fun _ => ?_) (fun c_11 => absurd (ge_end hk_1) c_11)
      exact hE_1 τ_1 hI_1 hf_1 (fun p hp => hw_1 p (Nat.lt_of_lt_of_le hp (k_le0 hk_1))) _ _ _ hR hP hD hS (lv_sub hl [1] rfl)
    | succ n ih =>
      intro k_1 τ_1 hk_1 hI_1 hf_1 hw_1 H locs ls hR hP hD hS hl
      obtain ⟨S_1, hB_1⟩ : ∃ s9, s_X6_hungerOfTrial_l2 k_1 τ_1 = s9 := ⟨_, rfl⟩
      have hR : s_X6_hungerOfTrial_c2 (iter s_X6_hungerOfTrial_l2 n (k_1 + 1) S_1) = (R1, R2) := by rw [← hB_1]; exact hR
      have hB_1 : (put τ_1 604 k_1 (0 : Int32)) = S_1 := hB_1
      refine lv_iload_n hx hb dX6_hungerOfTrial_2 rfl (lv_at hl 0 rfl) ?_
      refine lv_bipush (v := (6 : Int32)) hx hb dX6_hungerOfTrial_3 (by decide) ?_
      refine lv_icmp_ge (tgt := 21) hx hb dX6_hungerOfTrial_5 (by decide) (fun c_12 => absurd c_12 (ge_go hk_1)) (fun _ => ?_)
      refine lv_aload_n hx hb dX6_hungerOfTrial_8 rfl (lv_at hl 1 rfl) ?_
      refine va_get (D := D) (ci := 6) (v := .ref (ad 604)) (C := RX6) (T := TX6) (N := 10) hx hb hts hu6 hown hK hP 5 wc_5 rfl 4 (by decide) (hts (.fieldLink RX6 26 "GrazeBook$Turns" "visitsOf" "[I") (List.mem_cons_of_mem _ mw_179)) (fun _ h9 => h9) rfl dX6_hungerOfTrial_9 ?_
      refine lv_iload_n hx hb dX6_hungerOfTrial_12 rfl (lv_at hl 0 rfl) ?_
      refine lv_iconst (v := (0 : Int32)) hx hb dX6_hungerOfTrial_13 (by decide) ?_
      refine va_iast_k (k := k_1) hx hb hK hP hD hS 25 0 wc_25 rfl (ix_cl hk_1) (ix_loop (N := 6) hk_1 (show 0 ≤ (6 : Int32).toInt ∧ (6 : Int32).toInt ≤ ((6 : Nat) : Int) by decide) (by decide) (by decide)) dX6_hungerOfTrial_14 (fun H locs hP hD hS => ?_)
      rw [wc_s604] at hP hD
      refine lv_iinc (v := (nI (k_1 + 1))) (lv' := [(1, .int (nI (k_1 + 1))), (0, .ref (ad 809))]) hx hb dX6_hungerOfTrial_15 hl (k := 0) rfl (by rw [show Int32.ofInt 1 = 1 from by decide]; exact nI_1 _) (by decide) rfl (fun ls hl => ?_)
      refine lv_goto (tgt := 2) hx hb dX6_hungerOfTrial_18 (by decide) ?_
      subst hB_1
      exact ih (k_1 + 1) (put τ_1 604 k_1 (0 : Int32)) (ge_next hk_1) hI_1 (⟨hf_1.1, hf_1.2.1, hf_1.2.2.1, hf_1.2.2.2.1, hf_1.2.2.2.2.1, hf_1.2.2.2.2.2.1, hf_1.2.2.2.2.2.2⟩) (vw_next hw_1) _ _ _ hR hP hD hS (lv_sub hl [0, 1] rfl)
  exact hL_1 _ 0 σ ⟨rfl, by decide⟩ hI (⟨rfl, rfl, rfl, rfl, rfl, rfl, rfl⟩) (fun p hp => absurd hp (Nat.not_lt_zero p)) _ _ _ hR hP hD hS (lv_sub hl [0, 1] rfl)

def s_X6_nextTrial_c7  : St → St := fun x9 => match x9 with
  | τ_2 => τ_2
def s_X6_nextTrial_c7r  : Sum St St → St := fun x9 => match x9 with
  | .inl r => r
  | .inr s => s_X6_nextTrial_c7 s
def s_X6_nextTrial_l7 (a1 : Int32) (k_2 : Nat) : St → Sum St St := fun x9 => match x9 with
  | τ_2 => (if a1 ≤ ((put τ_2 602 k_2 ((τ_2 602 k_2) + (1 : Int32))) 602 k_2) then (Sum.inr (put (put τ_2 602 k_2 ((τ_2 602 k_2) + (1 : Int32))) 602 k_2 (0 : Int32))) else (Sum.inl (put τ_2 602 k_2 ((τ_2 602 k_2) + (1 : Int32)))))
def s_X6_nextTrial (σ : St) (a1 : Int32) : St := (s_X6_nextTrial_c7r (iterDR (s_X6_nextTrial_l7 a1) (s_X6_slots σ).toNatClampNeg σ))
set_option maxHeartbeats 1000000 in
set_option maxRecDepth 100000 in
theorem k_X6_nextTrial (l : Launch) (D : va_G) (ca : Nat → ClassId) (h : Nat) (ad : Nat → Nat) (pa : Nat → Nat → Nat) (tb : Nat) (σ : St) (a1 : Int32) (sz : Nat) (hI : IX σ)  (R : St) (hR : s_X6_nextTrial σ a1 = R) : Met l yX6_nextTrial wsX6_nextTrial ({ frames := 2, cells := 0, slots := 0, locals := 33 }) (va_Pc [.ref (ad 809), .int a1] (cw_pre D ca (WC ca h ad pa σ) sz tb)) (va_Qv (fun _ : Unit => True) (fun (_ : Unit) (t : State) => pw_post D ca (WC ca h ad pa σ) sz (WC ca h ad pa R) t ∧ IX R) (va_A (WC ca h ad pa σ) sz)) 0 0 (va_A (WC ca h ad pa σ) sz) := by
  refine Met.ofW (cc := cX6_nextTrial) (maxL := 3) (ret := none) (by decide) rfl ?_
  intro p e s m args below meth c s₁ B hml hv
  obtain ⟨rfl, ⟨hsz, hP, hK, hD0⟩, hZ⟩ := hv
  have hx := B.exec
  have hb := B.bytes
  have hr := B.returns
  have hts := atoms_spec (ws := wsX6_nextTrial) B.pre
  have hown : s.vm.findClass RX6 = some m.cls := findClass_of_methodNamed B.named
  have hlocks := B.notSynchronized
  have hu6 : ∀ w ∈ u_ws RX6 TX6 10, w ∈ wsX6_nextTrial := fun w h => List.mem_cons_of_mem _ (uw6 w h)
  subst hsz
  have hD := hD0.self (sz := s.heap.size)
  obtain ⟨A, hAe⟩ : ∃ A, A = va_A (WC ca h ad pa σ) s.heap.size := ⟨_, rfl⟩
  rw [← hAe] at hD hZ ⊢
  have hA : ∀ q : Nat, s.heap.size ≤ q → A q := fun q h => by rw [hAe]; exact Or.inr h
  have hS : va_S A s.heap s.heap [] := va_S.rf
  have hl := lv_entry ([.ref (ad 809), .int a1]) (n := 3) (Nat.le_of_ble_eq_true rfl)
  rw [lg_entry_eq]
  generalize (lg_sl ([.ref (ad 809), .int a1]) ++ List.replicate (3 - (lg_sl ([.ref (ad 809), .int a1])).length) Slot.unset).toArray = ls at hl ⊢
  have hl : lv_has ls 3 [(0, .ref (ad 809)), (1, .int a1)] := hl
  obtain ⟨H, hH⟩ : ∃ H, H = s.heap := ⟨_, rfl⟩
  have hP : va_P D vwCl (WC ca h ad pa σ) H := by rw [hH]; exact hP
  have hS : va_S A s.heap H [] := by rw [hH]; exact hS
  obtain ⟨QQ, hQ⟩ : ∃ Q9, Q9 = MQ below (va_Qv (fun _ : Unit => True) (fun (_ : Unit) (t : State) => pw_post D ca (WC ca h ad pa σ) s.heap.size (WC ca h ad pa R) t ∧ IX R) A) ([.ref (ad 809), .int a1] : List Value).toArray s 0 0 A := ⟨_, rfl⟩
  rw [← hQ]
  show W _ _ _ _ _ _ _ _ _ _ s.heap _ _ _ _ _
  rw [← hH]
  have hR : (s_X6_nextTrial_c7r (iterDR (s_X6_nextTrial_l7 a1) (s_X6_slots σ).toNatClampNeg σ)) = R := hR
  refine lv_aload_n hx hb dX6_nextTrial_0 rfl (lv_at hl 0 rfl) ?_
  have hF := pw_free hD hS hA
  refine va_calli (va_runV (As := []) (rest := []) ⟨hx, hb, hml, hown, hts⟩ (k_X6_slots l D ca h ad pa tb σ H.size hI _ rfl) (cwV 0 hts gX6_nextTrial_X6_slots rfl rfl rfl (by decide +kernel) ⟨Nat.le_of_ble_eq_true rfl, Nat.le_of_ble_eq_true rfl⟩) ⟨cw_blind, va_recv hK hP (ci := 6) (q0 := 5) rfl wc_5, cw_give hP hK hD hZ hS hF⟩ rfl rfl hl.1 rfl (lv_room (Nat.le_of_ble_eq_true rfl)) dX6_nextTrial_1 ⟨Nat.le_of_ble_eq_true rfl, Nat.le_of_ble_eq_true rfl⟩) hS (fun q _ h => hF q h) hF (fun r_1 u t H1 locs ht hvm hw hB hz1 hk1 hS => ?_)
  rw [hw]
  obtain ⟨hP, hD⟩ := pw_back hF ht hB
  clear hB hk1 hz1 hF
  generalize H1 = H at hP hS ⊢
  refine lv_iconst (v := (1 : Int32)) hx hb dX6_nextTrial_4 (by decide) ?_
  refine lv_isub hx hb dX6_nextTrial_5 ?_
  refine lv_istore_n (lv' := [(2, .int ((s_X6_slots σ) - (1 : Int32))), (0, .ref (ad 809)), (1, .int a1)]) hx hb dX6_nextTrial_6 rfl hl (by decide) rfl (fun ls hl => ?_)
  have hE_2 : ∀ (τ_2 : St) (hI_2 : IX τ_2) (hf_2 : τ_2 811 = σ 811 ∧ τ_2 812 = σ 812 ∧ τ_2 814 = σ 814 ∧ τ_2 815 = σ 815) (H : Heap) (locs : List Loc) (ls : Array Slot), s_X6_nextTrial_c7 τ_2 = R → va_P D vwCl (WC ca h ad pa τ_2) H → va_D A (WC ca h ad pa τ_2) → va_S A s.heap H locs → lv_has ls 3 [] → W p l e ((headSpec wsX6_nextTrial ({ frames := 2, cells := 0, slots := 0, locals := 33 })).room) s m ([.ref (ad 809), .int a1] : List Value).toArray below meth c H locs 0 0 QQ (F0 m 45 ls []) := by
    intro τ_2 hI_2 hf_2 H locs ls hR hP hD hS hl
    have hR : τ_2 = R := hR
    have hI9 : IX τ_2 := hI_2
    subst hR
    rw [hQ]
    exact W.vret hx hb hr (fun t ht hW => ⟨⟨(), rfl, trivial, ⟨by rw [ht]; exact hP, va_K.moved hW.alike hK, by rw [← hAe]; exact hD⟩, hI9⟩, hS.F ht⟩) hS.2.2 dX6_nextTrial_45
  have hL_2 : ∀ (n : Nat) (τ_2 : St) (hk_2 : n ≤ (s_X6_slots σ).toNatClampNeg) (hI_2 : IX τ_2) (hf_2 : τ_2 811 = σ 811 ∧ τ_2 812 = σ 812 ∧ τ_2 814 = σ 814 ∧ τ_2 815 = σ 815) (H : Heap) (locs : List Loc) (ls : Array Slot), s_X6_nextTrial_c7r (iterDR (s_X6_nextTrial_l7 a1) n τ_2) = R → va_P D vwCl (WC ca h ad pa τ_2) H → va_D A (WC ca h ad pa τ_2) → va_S A s.heap H locs → lv_has ls 3 [(2, .int (nI n - (1 : Int32))), (0, .ref (ad 809)), (1, .int a1)] → W p l e ((headSpec wsX6_nextTrial ({ frames := 2, cells := 0, slots := 0, locals := 33 })).room) s m ([.ref (ad 809), .int a1] : List Value).toArray below meth c H locs 0 0 QQ (F0 m 7 ls []) := by
    intro n
    induction n with
    | zero =>
      intro τ_2 hk_2 hI_2 hf_2 H locs ls hR hP hD hS hl
      refine lv_iload_n hx hb dX6_nextTrial_7 rfl (lv_at hl 0 rfl) ?_
      refine lv_if_lt (tgt := 45) hx hb dX6_nextTrial_8 (by decide) (fun _ => ?_) (fun c9 => absurd (by decide) c9)
      exact hE_2 τ_2 hI_2 hf_2 _ _ _ hR hP hD hS (lv_sub hl [] rfl)
    | succ k_2 ih =>
      intro τ_2 hk_2 hI_2 hf_2 H locs ls hR hP hD hS hl
      obtain ⟨S_2, hB_2⟩ : ∃ s9, s_X6_nextTrial_l7 a1 k_2 τ_2 = s9 := ⟨_, rfl⟩
      have hR : s_X6_nextTrial_c7r (iterDR1 (s_X6_nextTrial_l7 a1) k_2 S_2) = R := by rw [← hB_2]; exact hR
      have hB_2 : (if a1 ≤ ((put τ_2 602 k_2 ((τ_2 602 k_2) + (1 : Int32))) 602 k_2) then (Sum.inr (put (put τ_2 602 k_2 ((τ_2 602 k_2) + (1 : Int32))) 602 k_2 (0 : Int32))) else (Sum.inl (put τ_2 602 k_2 ((τ_2 602 k_2) + (1 : Int32))))) = S_2 := hB_2
      rw [nI_pred] at hl
      refine lv_iload_n hx hb dX6_nextTrial_7 rfl (lv_at hl 0 rfl) ?_
      refine lv_if_lt (tgt := 45) hx hb dX6_nextTrial_8 (by decide) (fun c9 => absurd c9 (nI_pos (dn_lt hk_2))) (fun _ => ?_)
      refine lv_aload_n hx hb dX6_nextTrial_11 rfl (lv_at hl 1 rfl) ?_
      refine va_get (D := D) (ci := 6) (v := .ref (ad 602)) (C := RX6) (T := TX6) (N := 10) hx hb hts hu6 hown hK hP 5 wc_5 rfl 2 (by decide) (hts (.fieldLink RX6 20 "GrazeBook$Turns" "trial" "[I") (List.mem_cons_of_mem _ mw_177)) (fun _ h9 => h9) rfl dX6_nextTrial_12 ?_
      refine lv_iload_n hx hb dX6_nextTrial_15 rfl (lv_at hl 0 rfl) ?_
      refine lv_dup2_11 hx hb dX6_nextTrial_16 rfl rfl ?_
      refine va_iald_k (k := k_2) (v := (τ_2 602 k_2)) hx hb hK hP 23 0 wc_23 rfl (ix_cld hk_2) rfl (ix_down (N := 4) hk_2 (slots_ok hI) (by decide) (by decide)) dX6_nextTrial_17 ?_
      refine lv_iconst (v := (1 : Int32)) hx hb dX6_nextTrial_18 (by decide) ?_
      refine lv_iadd hx hb dX6_nextTrial_19 ?_
      refine va_iast_k (k := k_2) hx hb hK hP hD hS 23 0 wc_23 rfl (ix_cld hk_2) (ix_down (N := 4) hk_2 (slots_ok hI) (by decide) (by decide)) dX6_nextTrial_20 (fun H locs hP hD hS => ?_)
      rw [wc_s602] at hP hD
      refine lv_aload_n hx hb dX6_nextTrial_21 rfl (lv_at hl 1 rfl) ?_
      refine va_get (D := D) (ci := 6) (v := .ref (ad 602)) (C := RX6) (T := TX6) (N := 10) hx hb hts hu6 hown hK hP 5 wc_5 rfl 2 (by decide) (hts (.fieldLink RX6 20 "GrazeBook$Turns" "trial" "[I") (List.mem_cons_of_mem _ mw_177)) (fun _ h9 => h9) rfl dX6_nextTrial_22 ?_
      refine lv_iload_n hx hb dX6_nextTrial_25 rfl (lv_at hl 0 rfl) ?_
      refine va_iald_k (k := k_2) (v := ((put τ_2 602 k_2 ((τ_2 602 k_2) + (1 : Int32))) 602 k_2)) hx hb hK hP 23 0 wc_23 rfl (ix_cld hk_2) rfl (ix_down (N := 4) hk_2 (slots_ok hI) (by decide) (by decide)) dX6_nextTrial_26 ?_
      refine lv_iload_n hx hb dX6_nextTrial_27 rfl (lv_at hl 2 rfl) ?_
      refine lv_icmp_ge (tgt := 32) hx hb dX6_nextTrial_28 (by decide) (fun c_3 => ?_) (fun c_3 => ?_)
      · have hB_2 := (if_pos c_3).symm.trans hB_2
        refine lv_aload_n hx hb dX6_nextTrial_32 rfl (lv_at hl 1 rfl) ?_
        refine va_get (D := D) (ci := 6) (v := .ref (ad 602)) (C := RX6) (T := TX6) (N := 10) hx hb hts hu6 hown hK hP 5 wc_5 rfl 2 (by decide) (hts (.fieldLink RX6 20 "GrazeBook$Turns" "trial" "[I") (List.mem_cons_of_mem _ mw_177)) (fun _ h9 => h9) rfl dX6_nextTrial_33 ?_
        refine lv_iload_n hx hb dX6_nextTrial_36 rfl (lv_at hl 0 rfl) ?_
        refine lv_iconst (v := (0 : Int32)) hx hb dX6_nextTrial_37 (by decide) ?_
        refine va_iast_k (k := k_2) hx hb hK hP hD hS 23 0 wc_23 rfl (ix_cld hk_2) (ix_down (N := 4) hk_2 (slots_ok hI) (by decide) (by decide)) dX6_nextTrial_38 (fun H locs hP hD hS => ?_)
        rw [wc_s602] at hP hD
        refine lv_iinc (v := ((nI k_2) + (-1 : Int32))) (lv' := [(2, .int ((nI k_2) + (-1 : Int32))), (0, .ref (ad 809)), (1, .int a1)]) hx hb dX6_nextTrial_39 hl (k := 0) rfl (by rw [show Int32.ofInt (-1) = (-1 : Int32) from by decide]) (by decide) rfl (fun ls hl => ?_)
        refine lv_goto (tgt := 7) hx hb dX6_nextTrial_42 (by decide) ?_
        subst hB_2
        rw [m1_sub] at hl
        exact ih (put (put τ_2 602 k_2 ((τ_2 602 k_2) + (1 : Int32))) 602 k_2 (0 : Int32)) (Nat.le_of_succ_le hk_2) hI_2 (⟨hf_2.1, hf_2.2.1, hf_2.2.2.1, hf_2.2.2.2⟩) _ _ _ hR hP hD hS (lv_sub hl [0, 1, 2] rfl)
      · have hB_2 := (if_neg c_3).symm.trans hB_2
        subst hB_2
        have hI9 : IX (put τ_2 602 k_2 ((τ_2 602 k_2) + (1 : Int32))) := hI_2
        subst hR
        rw [hQ]
        exact W.vret hx hb hr (fun t ht hW => ⟨⟨(), rfl, trivial, ⟨by rw [ht]; exact hP, va_K.moved hW.alike hK, by rw [← hAe]; exact hD⟩, hI9⟩, hS.F ht⟩) hS.2.2 dX6_nextTrial_31
  rw [dn_eq (slots_ok hI).1] at hl
  exact hL_2 _ σ (Nat.le_refl _) hI (⟨rfl, rfl, rfl, rfl⟩) _ _ _ hR hP hD hS (lv_sub hl [0, 1, 2] rfl)

theorem fr_s_X6_nextTrial (σ : St) (a1 : Int32) {f : Nat} (h602 : f ≠ 602) : s_X6_nextTrial σ a1 f = σ f := by
  unfold s_X6_nextTrial
  have h := iterDR_fr (P := fun s : St => s f) (L := s_X6_nextTrial_l7 a1) (fun k s t e => by
    unfold s_X6_nextTrial_l7 at e
    dsimp only at e
    split at e
    · obtain rfl := Sum.inr.inj e
      simp only [put_fr, ne_eq, not_false_eq_true, h602]
    · cases e) (fun k s t e => by
    unfold s_X6_nextTrial_l7 at e
    dsimp only at e
    split at e
    · cases e
    · obtain rfl := Sum.inl.inj e
      simp only [put_fr, ne_eq, not_false_eq_true, h602]) (s_X6_slots σ).toNatClampNeg σ
  cases e : iterDR (s_X6_nextTrial_l7 a1) (s_X6_slots σ).toNatClampNeg σ with
  | inl r => exact h.2 r e
  | inr r => exact h.1 r e
theorem tr_next {σ : St} {a : Int32} (h : TR σ) (ha : a.toInt ≤ 6) : TR (s_X6_nextTrial σ a) := by
  intro k hk
  rw [slots_cast (fr_s_X6_nextTrial σ a (by decide)) (fr_s_X6_nextTrial σ a (by decide))] at hk
  unfold s_X6_nextTrial
  have hx : ∀ x y : Int32, vp_in x 6 → ¬ y ≤ x + 1 → y.toInt ≤ 6 → vp_in (x + 1) 6 := by
    intro x y h1 h2 h3
    rw [vp_in_iff] at h1 ⊢
    have e1 : (1 : Int32).toInt = 1 := by decide
    have q : (x + 1).toInt = x.toInt + 1 := by rw [add_ti (by rw [e1]; omega) (by rw [e1]; omega), e1]
    rw [Int32.le_iff_toInt_le, q] at h2
    rw [q]
    omega
  have g := iterDR_inv (P := fun s : St => ∀ k : Nat, k < (s_X6_slots σ).toNatClampNeg → vp_in (s 602 k) 6) (L := s_X6_nextTrial_l7 a) (N := (s_X6_slots σ).toNatClampNeg) (fun j s t hj hs e => by
    unfold s_X6_nextTrial_l7 at e
    dsimp only at e
    split at e
    · obtain rfl := Sum.inr.inj e
      intro i hi
      by_cases e2 : i = j
      · subst e2; rw [put_same]; unfold vp_in; decide
      · rw [put_oth e2, put_oth e2]; exact hs i hi
    · cases e) (fun j s t hj hs e => by
    unfold s_X6_nextTrial_l7 at e
    dsimp only at e
    split at e
    · cases e
    · rename_i hc
      obtain rfl := Sum.inl.inj e
      intro i hi
      by_cases e2 : i = j
      · subst e2
        rw [put_same] at hc ⊢
        exact hx _ _ (hs i hi) hc ha
      · rw [put_oth e2]; exact hs i hi) (s_X6_slots σ).toNatClampNeg σ (Nat.le_refl _) h
  cases e : iterDR (s_X6_nextTrial_l7 a) (s_X6_slots σ).toNatClampNeg σ with
  | inl r => exact g.2 r e k hk
  | inr r => exact g.1 r e k hk

def s_X6_choose_c38  : (Int32 × St) → Int32 × St := fun x9 => match x9 with
  | (v2_2, τ_2) => (v2_2, τ_2)
def s_X6_choose_j86 (a1 : Int32) (v2_6 : Int32) (τ_6 : St) : (Int32 × St) := (v2_6, (s_X6_nextTrial τ_6 a1))
def s_X6_choose_l38 (a1 : Int32) (k_2 : Nat) : (Int32 × St) → (Int32 × St) := fun x9 => match x9 with
  | (v2_2, τ_2) => (if (s_X6_isOpen τ_2) = (0 : Int32) then (s_X6_choose_j86 a1 v2_2 τ_2) else (if v2_2 = (-9 : Int32) then (s_X6_choose_j86 a1 ((s_X6_hungerOfTrial τ_2).1) (pcpy ((s_X6_hungerOfTrial τ_2).2))) else (if v2_2 ≤ ((s_X6_hungerOfTrial τ_2).1) then (s_X6_choose_j86 a1 v2_2 ((s_X6_hungerOfTrial τ_2).2)) else (s_X6_choose_j86 a1 ((s_X6_hungerOfTrial τ_2).1) (pcpy ((s_X6_hungerOfTrial τ_2).2))))))
def s_X6_choose_c8 (a1 : Int32) : (Int32 × St) → Int32 × St := fun x9 => match x9 with
  | (v3_1, τ_1) => (s_X6_choose_c38 (iter (s_X6_choose_l38 a1) (v3_1.toNatClampNeg - 0) 0 ((-9 : Int32), τ_1)))
def s_X6_choose_l8 (a1 : Int32) (k_1 : Nat) : (Int32 × St) → (Int32 × St) := fun x9 => match x9 with
  | (v3_1, τ_1) => ((v3_1 * a1), (put τ_1 602 k_1 (0 : Int32)))
def s_X6_choose (σ : St) (a1 : Int32) : Int32 × St := (s_X6_choose_c8 a1 (iter (s_X6_choose_l8 a1) ((s_X6_slots σ).toNatClampNeg - 0) 0 ((1 : Int32), σ)))
theorem fr_s_X6_choose_c38  (s : (Int32 × St)) {f : Nat} (h602 : f ≠ 602) (h603 : f ≠ 603) (h604 : f ≠ 604) : (s_X6_choose_c38 s).2 f = s.2 f := by
  obtain ⟨v2_2, τ_2⟩ := s
  unfold s_X6_choose_c38
  all_goals ((try dsimp only) <;> ((repeat' split) <;> (try simp only [put_fr, pcpy_fr, ne_eq, not_false_eq_true, h602, h603, h604, fr_s_X6_hungerOfTrial, fr_s_X6_nextTrial])))
theorem fr_s_X6_choose_j86 (a1 : Int32) (v2_6 : Int32) (τ_6 : St) {f : Nat} (h602 : f ≠ 602) (h603 : f ≠ 603) (h604 : f ≠ 604) : (s_X6_choose_j86 a1 v2_6 τ_6).2 f = τ_6 f := by
  unfold s_X6_choose_j86
  all_goals ((try dsimp only) <;> ((repeat' split) <;> (try simp only [put_fr, pcpy_fr, ne_eq, not_false_eq_true, h602, h603, h604, fr_s_X6_hungerOfTrial, fr_s_X6_nextTrial, fr_s_X6_choose_c38])))
theorem fr_s_X6_choose_l38 (a1 : Int32) (k_2 : Nat) (s : (Int32 × St)) {f : Nat} (h602 : f ≠ 602) (h603 : f ≠ 603) (h604 : f ≠ 604) : (s_X6_choose_l38 a1 k_2 s).2 f = s.2 f := by
  obtain ⟨v2_2, τ_2⟩ := s
  unfold s_X6_choose_l38
  all_goals ((try dsimp only) <;> ((repeat' split) <;> (try simp only [put_fr, pcpy_fr, ne_eq, not_false_eq_true, h602, h603, h604, fr_s_X6_hungerOfTrial, fr_s_X6_nextTrial, fr_s_X6_choose_c38, fr_s_X6_choose_j86])))
theorem fri_s_X6_choose_l38 (a1 : Int32) (n k : Nat) (s : (Int32 × St)) {f : Nat} (h602 : f ≠ 602) (h603 : f ≠ 603) (h604 : f ≠ 604) : (iter (s_X6_choose_l38 a1) n k s).2 f = s.2 f := iter_fr (P := (fun s => s.2 f)) (fun k s => fr_s_X6_choose_l38 a1 k s h602 h603 h604) n k s
theorem fr_s_X6_choose_c8 (a1 : Int32) (s : (Int32 × St)) {f : Nat} (h602 : f ≠ 602) (h603 : f ≠ 603) (h604 : f ≠ 604) : (s_X6_choose_c8 a1 s).2 f = s.2 f := by
  obtain ⟨v3_1, τ_1⟩ := s
  unfold s_X6_choose_c8
  all_goals ((try dsimp only) <;> ((repeat' split) <;> (try simp only [put_fr, pcpy_fr, ne_eq, not_false_eq_true, h602, h603, h604, fr_s_X6_hungerOfTrial, fr_s_X6_nextTrial, fr_s_X6_choose_c38, fr_s_X6_choose_j86, fri_s_X6_choose_l38])))
theorem fr_s_X6_choose_l8 (a1 : Int32) (k_1 : Nat) (s : (Int32 × St)) {f : Nat} (h602 : f ≠ 602) (h603 : f ≠ 603) (h604 : f ≠ 604) : (s_X6_choose_l8 a1 k_1 s).2 f = s.2 f := by
  obtain ⟨v3_1, τ_1⟩ := s
  unfold s_X6_choose_l8
  all_goals ((try dsimp only) <;> ((repeat' split) <;> (try simp only [put_fr, pcpy_fr, ne_eq, not_false_eq_true, h602, h603, h604, fr_s_X6_hungerOfTrial, fr_s_X6_nextTrial, fr_s_X6_choose_c38, fr_s_X6_choose_j86, fri_s_X6_choose_l38, fr_s_X6_choose_c8])))
theorem fri_s_X6_choose_l8 (a1 : Int32) (n k : Nat) (s : (Int32 × St)) {f : Nat} (h602 : f ≠ 602) (h603 : f ≠ 603) (h604 : f ≠ 604) : (iter (s_X6_choose_l8 a1) n k s).2 f = s.2 f := iter_fr (P := (fun s => s.2 f)) (fun k s => fr_s_X6_choose_l8 a1 k s h602 h603 h604) n k s
theorem fr_s_X6_choose (σ : St) (a1 : Int32) {f : Nat} (h602 : f ≠ 602) (h603 : f ≠ 603) (h604 : f ≠ 604) : (s_X6_choose σ a1 ).2 f = σ f := by
  unfold s_X6_choose
  all_goals ((try dsimp only) <;> ((repeat' split) <;> (try simp only [put_fr, pcpy_fr, ne_eq, not_false_eq_true, h602, h603, h604, fr_s_X6_hungerOfTrial, fr_s_X6_nextTrial, fr_s_X6_choose_c38, fr_s_X6_choose_j86, fri_s_X6_choose_l38, fr_s_X6_choose_c8, fri_s_X6_choose_l8])))
set_option maxHeartbeats 1000000 in
set_option maxRecDepth 100000 in
theorem k_X6_choose (l : Launch) (D : va_G) (ca : Nat → ClassId) (h : Nat) (ad : Nat → Nat) (pa : Nat → Nat → Nat) (tb : Nat) (σ : St) (a1 : Int32) (sz : Nat) (hI : IX σ) (ha : a1.toInt ≤ 6) (R1 : Int32) (R2 : St) (hR : s_X6_choose σ a1 = (R1, R2)) : Met l yX6_choose wsX6_choose ({ frames := 3, cells := 0, slots := 0, locals := 55 }) (va_Pc [.ref (ad 809), .int a1] (cw_pre D ca (WC ca h ad pa σ) sz tb)) (va_Qi (fun (r : Int32) (_ : Unit) => r = R1) (fun (_ : Unit) (t : State) => pw_post D ca (WC ca h ad pa σ) sz (WC ca h ad pa R2) t ∧ IX R2) (va_A (WC ca h ad pa σ) sz)) 0 0 (va_A (WC ca h ad pa σ) sz) := by
  refine Met.ofW (cc := cX6_choose) (maxL := 6) (ret := (some .int)) (by decide) rfl ?_
  intro p e s m args below meth c s₁ B hml hv
  obtain ⟨rfl, ⟨hsz, hP, hK, hD0⟩, hZ⟩ := hv
  have hx := B.exec
  have hb := B.bytes
  have hr := B.returns
  have hts := atoms_spec (ws := wsX6_choose) B.pre
  have hown : s.vm.findClass RX6 = some m.cls := findClass_of_methodNamed B.named
  have hlocks := B.notSynchronized
  have hu6 : ∀ w ∈ u_ws RX6 TX6 10, w ∈ wsX6_choose := fun w h => List.mem_cons_of_mem _ (uw6 w h)
  subst hsz
  have hD := hD0.self (sz := s.heap.size)
  obtain ⟨A, hAe⟩ : ∃ A, A = va_A (WC ca h ad pa σ) s.heap.size := ⟨_, rfl⟩
  rw [← hAe] at hD hZ ⊢
  have hA : ∀ q : Nat, s.heap.size ≤ q → A q := fun q h => by rw [hAe]; exact Or.inr h
  have hS : va_S A s.heap s.heap [] := va_S.rf
  have hl := lv_entry ([.ref (ad 809), .int a1]) (n := 6) (Nat.le_of_ble_eq_true rfl)
  rw [lg_entry_eq]
  generalize (lg_sl ([.ref (ad 809), .int a1]) ++ List.replicate (6 - (lg_sl ([.ref (ad 809), .int a1])).length) Slot.unset).toArray = ls at hl ⊢
  have hl : lv_has ls 6 [(0, .ref (ad 809)), (1, .int a1)] := hl
  obtain ⟨H, hH⟩ : ∃ H, H = s.heap := ⟨_, rfl⟩
  have hP : va_P D vwCl (WC ca h ad pa σ) H := by rw [hH]; exact hP
  have hS : va_S A s.heap H [] := by rw [hH]; exact hS
  obtain ⟨QQ, hQ⟩ : ∃ Q9, Q9 = MQ below (va_Qi (fun (r : Int32) (_ : Unit) => r = R1) (fun (_ : Unit) (t : State) => pw_post D ca (WC ca h ad pa σ) s.heap.size (WC ca h ad pa R2) t ∧ IX R2) A) ([.ref (ad 809), .int a1] : List Value).toArray s 0 0 A := ⟨_, rfl⟩
  rw [← hQ]
  show W _ _ _ _ _ _ _ _ _ _ s.heap _ _ _ _ _
  rw [← hH]
  delta s_X6_choose at hR
  refine lv_bipush (v := (-9 : Int32)) hx hb dX6_choose_0 (by decide) ?_
  refine lv_istore_n (lv' := [(2, .int (-9 : Int32)), (0, .ref (ad 809)), (1, .int a1)]) hx hb dX6_choose_2 rfl hl (by decide) rfl (fun ls hl => ?_)
  refine lv_iconst (v := (1 : Int32)) hx hb dX6_choose_3 (by decide) ?_
  refine lv_istore_n (lv' := [(3, .int (1 : Int32)), (2, .int (-9 : Int32)), (0, .ref (ad 809)), (1, .int a1)]) hx hb dX6_choose_4 rfl hl (by decide) rfl (fun ls hl => ?_)
  refine lv_iconst (v := (0 : Int32)) hx hb dX6_choose_5 (by decide) ?_
  refine lv_istore (lv' := [(4, .int (0 : Int32)), (3, .int (1 : Int32)), (2, .int (-9 : Int32)), (0, .ref (ad 809)), (1, .int a1)]) hx hb dX6_choose_6 hl (by decide) rfl (fun ls hl => ?_)
  have hE_1 : ∀ (v3_1 : Int32) (τ_1 : St) (hI_1 : IX τ_1) (hf_1 : τ_1 811 = σ 811 ∧ τ_1 812 = σ 812 ∧ τ_1 814 = σ 814 ∧ τ_1 815 = σ 815 ∧ τ_1 607 = σ 607 ∧ τ_1 608 = σ 608) (ht_1 : TR τ_1) (H : Heap) (locs : List Loc) (ls : Array Slot), s_X6_choose_c8 a1 (v3_1, τ_1) = (R1, R2) → va_P D vwCl (WC ca h ad pa τ_1) H → va_D A (WC ca h ad pa τ_1) → va_S A s.heap H locs → lv_has ls 6 [(3, .int v3_1), (2, .int (-9 : Int32)), (0, .ref (ad 809)), (1, .int a1)] → W p l e ((headSpec wsX6_choose ({ frames := 3, cells := 0, slots := 0, locals := 55 })).room) s m ([.ref (ad 809), .int a1] : List Value).toArray below meth c H locs 0 0 QQ (F0 m 35 ls []) := by
    intro v3_1 τ_1 hI_1 hf_1 ht_1 H locs ls hR hP hD hS hl
    have hR : (s_X6_choose_c38 (iter (s_X6_choose_l38 a1) (v3_1.toNatClampNeg - 0) 0 ((-9 : Int32), τ_1))) = (R1, R2) := hR
    refine lv_iconst (v := (0 : Int32)) hx hb dX6_choose_35 (by decide) ?_
    refine lv_istore (lv' := [(4, .int (0 : Int32)), (3, .int v3_1), (2, .int (-9 : Int32)), (0, .ref (ad 809)), (1, .int a1)]) hx hb dX6_choose_36 hl (by decide) rfl (fun ls hl => ?_)
    have hE_2 : ∀ (v2_2 : Int32) (τ_2 : St) (hI_2 : IX τ_2) (hf_2 : τ_2 811 = σ 811 ∧ τ_2 812 = σ 812 ∧ τ_2 814 = σ 814 ∧ τ_2 815 = σ 815 ∧ τ_2 607 = σ 607 ∧ τ_2 608 = σ 608) (ht_2 : TR τ_2) (H : Heap) (locs : List Loc) (ls : Array Slot), s_X6_choose_c38 (v2_2, τ_2) = (R1, R2) → va_P D vwCl (WC ca h ad pa τ_2) H → va_D A (WC ca h ad pa τ_2) → va_S A s.heap H locs → lv_has ls 6 [(2, .int v2_2)] → W p l e ((headSpec wsX6_choose ({ frames := 3, cells := 0, slots := 0, locals := 55 })).room) s m ([.ref (ad 809), .int a1] : List Value).toArray below meth c H locs 0 0 QQ (F0 m 97 ls []) := by
      intro v2_2 τ_2 hI_2 hf_2 ht_2 H locs ls hR hP hD hS hl
      have hR : (v2_2, τ_2) = (R1, R2) := hR
      refine lv_iload_n hx hb dX6_choose_97 rfl (lv_at hl 0 rfl) ?_
      have hI9 : IX τ_2 := hI_2
      obtain ⟨rfl, rfl⟩ := Prod.mk.inj (show (v2_2, τ_2) = (R1, R2) from hR)
      rw [hQ]
      exact W.iret (v := v2_2) hx hb hr (fun t ht hW => ⟨⟨v2_2, (), rfl, rfl, ⟨by rw [ht]; exact hP, va_K.moved hW.alike hK, by rw [← hAe]; exact hD⟩, hI9⟩, hS.F ht⟩) hS.2.2 dX6_choose_98
    have hL_2 : ∀ (n k_2 : Nat) (v2_2 : Int32) (τ_2 : St) (hk_2 : lpk v3_1 k_2 n) (hI_2 : IX τ_2) (hf_2 : τ_2 811 = σ 811 ∧ τ_2 812 = σ 812 ∧ τ_2 814 = σ 814 ∧ τ_2 815 = σ 815 ∧ τ_2 607 = σ 607 ∧ τ_2 608 = σ 608) (ht_2 : TR τ_2) (H : Heap) (locs : List Loc) (ls : Array Slot), s_X6_choose_c38 (iter (s_X6_choose_l38 a1) n k_2 (v2_2, τ_2)) = (R1, R2) → va_P D vwCl (WC ca h ad pa τ_2) H → va_D A (WC ca h ad pa τ_2) → va_S A s.heap H locs → lv_has ls 6 [(4, .int (nI k_2)), (3, .int v3_1), (2, .int v2_2), (0, .ref (ad 809)), (1, .int a1)] → W p l e ((headSpec wsX6_choose ({ frames := 3, cells := 0, slots := 0, locals := 55 })).room) s m ([.ref (ad 809), .int a1] : List Value).toArray below meth c H locs 0 0 QQ (F0 m 38 ls []) := by
      intro n
      induction n with
      | zero =>
        intro k_2 v2_2 τ_2 hk_2 hI_2 hf_2 ht_2 H locs ls hR hP hD hS hl
        refine lv_iload hx hb dX6_choose_38 (lv_at hl 0 rfl) ?_
        refine lv_iload_n hx hb dX6_choose_40 rfl (lv_at hl 1 rfl) ?_
        refine lv_icmp_ge (tgt := 97) hx hb dX6_choose_41 (by decide) (fun _ => ?_) (fun c_3 => absurd (ge_end hk_2) c_3)
        exact hE_2 v2_2 τ_2 hI_2 hf_2 ht_2 _ _ _ hR hP hD hS (lv_sub hl [2] rfl)
      | succ n ih =>
        intro k_2 v2_2 τ_2 hk_2 hI_2 hf_2 ht_2 H locs ls hR hP hD hS hl
        obtain ⟨S_2, hB_2⟩ : ∃ s9, s_X6_choose_l38 a1 k_2 (v2_2, τ_2) = s9 := ⟨_, rfl⟩
        have hR : s_X6_choose_c38 (iter (s_X6_choose_l38 a1) n (k_2 + 1) S_2) = (R1, R2) := by rw [← hB_2]; exact hR
        have hB_2 : (if (s_X6_isOpen τ_2) = (0 : Int32) then (s_X6_choose_j86 a1 v2_2 τ_2) else (if v2_2 = (-9 : Int32) then (s_X6_choose_j86 a1 ((s_X6_hungerOfTrial τ_2).1) (pcpy ((s_X6_hungerOfTrial τ_2).2))) else (if v2_2 ≤ ((s_X6_hungerOfTrial τ_2).1) then (s_X6_choose_j86 a1 v2_2 ((s_X6_hungerOfTrial τ_2).2)) else (s_X6_choose_j86 a1 ((s_X6_hungerOfTrial τ_2).1) (pcpy ((s_X6_hungerOfTrial τ_2).2)))))) = S_2 := hB_2
        refine lv_iload hx hb dX6_choose_38 (lv_at hl 0 rfl) ?_
        refine lv_iload_n hx hb dX6_choose_40 rfl (lv_at hl 1 rfl) ?_
        refine lv_icmp_ge (tgt := 97) hx hb dX6_choose_41 (by decide) (fun c_4 => absurd c_4 (ge_go hk_2)) (fun _ => ?_)
        refine lv_aload_n hx hb dX6_choose_44 rfl (lv_at hl 3 rfl) ?_
        have hF := pw_free hD hS hA
        refine va_calli (va_runV (As := []) (rest := []) ⟨hx, hb, hml, hown, hts⟩ (k_X6_isOpen l D ca h ad pa tb τ_2 H.size hI_2 _ rfl) (cwV 0 hts gX6_choose_X6_isOpen rfl rfl rfl (by decide +kernel) ⟨Nat.le_of_ble_eq_true rfl, Nat.le_of_ble_eq_true rfl⟩) ⟨cw_blind, va_recv hK hP (ci := 6) (q0 := 5) rfl wc_5, cw_give hP hK hD hZ hS hF⟩ rfl rfl hl.1 rfl (lv_room (Nat.le_of_ble_eq_true rfl)) dX6_choose_45 ⟨Nat.le_of_ble_eq_true rfl, Nat.le_of_ble_eq_true rfl⟩) hS (fun q _ h => hF q h) hF (fun r_5 u t H1 locs ht hvm hw hB hz1 hk1 hS => ?_)
        rw [hw]
        obtain ⟨hP, hD⟩ := pw_back hF ht hB
        clear hB hk1 hz1 hF
        generalize H1 = H at hP hS ⊢
        have hJ_6 : ∀ (v2_6 : Int32) (τ_6 : St) (hI_6 : IX τ_6) (hf_6 : τ_6 811 = σ 811 ∧ τ_6 812 = σ 812 ∧ τ_6 814 = σ 814 ∧ τ_6 815 = σ 815 ∧ τ_6 607 = σ 607 ∧ τ_6 608 = σ 608)  (ht_6 : TR τ_6) (H : Heap) (locs : List Loc) (ls : Array Slot), s_X6_choose_j86 a1 v2_6 τ_6 = S_2 → va_P D vwCl (WC ca h ad pa τ_6) H → va_D A (WC ca h ad pa τ_6) → va_S A s.heap H locs → lv_has ls 6 [(4, .int (nI k_2)), (3, .int v3_1), (2, .int v2_6), (0, .ref (ad 809)), (1, .int a1)] → W p l e ((headSpec wsX6_choose ({ frames := 3, cells := 0, slots := 0, locals := 55 })).room) s m ([.ref (ad 809), .int a1] : List Value).toArray below meth c H locs 0 0 QQ (F0 m 86 ls []) := by
          intro v2_6 τ_6 hI_6 hf_6 ht_6 H locs ls hB_2 hP hD hS hl
          have hB_2 : (v2_6, (s_X6_nextTrial τ_6 a1)) = S_2 := hB_2
          refine lv_aload_n hx hb dX6_choose_86 rfl (lv_at hl 3 rfl) ?_
          refine lv_iload_n hx hb dX6_choose_87 rfl (lv_at hl 4 rfl) ?_
          have hF := pw_free hD hS hA
          refine va_callv (va_runV (As := [.int a1]) (rest := []) ⟨hx, hb, hml, hown, hts⟩ (k_X6_nextTrial l D ca h ad pa tb τ_6 a1 H.size hI_6 _ rfl) (cwV 1 hts gX6_choose_X6_nextTrial rfl rfl rfl (by decide +kernel) ⟨Nat.le_of_ble_eq_true rfl, Nat.le_of_ble_eq_true rfl⟩) ⟨cw_blind, va_recv hK hP (ci := 6) (q0 := 5) rfl wc_5, cw_give hP hK hD hZ hS hF⟩ rfl rfl hl.1 rfl (lv_room (Nat.le_of_ble_eq_true rfl)) dX6_choose_88 ⟨Nat.le_of_ble_eq_true rfl, Nat.le_of_ble_eq_true rfl⟩) hS (fun q _ h => hF q h) hF (fun u t H1 locs ht hvm hw hB hz1 hk1 hS => ?_)
          obtain ⟨hB, hI_8⟩ := hB
          obtain ⟨hP, hD⟩ := pw_back hF ht hB
          clear hB hk1 hz1 hF
          generalize H1 = H at hP hS ⊢
          obtain ⟨τc_9, hτc_9⟩ : ∃ t9, (s_X6_nextTrial τ_6 a1) = t9 := ⟨_, rfl⟩
          rw [hτc_9] at hP hD hI_8
          (try rw [hτc_9] at hB_2)
          refine lv_iinc (v := (nI (k_2 + 1))) (lv' := [(4, .int (nI (k_2 + 1))), (3, .int v3_1), (2, .int v2_6), (0, .ref (ad 809)), (1, .int a1)]) hx hb dX6_choose_91 hl (k := 0) rfl (by rw [show Int32.ofInt 1 = 1 from by decide]; exact nI_1 _) (by decide) rfl (fun ls hl => ?_)
          refine lv_goto (tgt := 38) hx hb dX6_choose_94 (by decide) ?_
          subst hB_2
          exact ih (k_2 + 1) v2_6 τc_9 (ge_next hk_2) hI_8 (⟨((show τc_9 811 = τ_6 811 by rw [← hτc_9]; exact fr_s_X6_nextTrial τ_6 a1 (f := 811) (by decide)).trans (hf_6.1)), ((show τc_9 812 = τ_6 812 by rw [← hτc_9]; exact fr_s_X6_nextTrial τ_6 a1 (f := 812) (by decide)).trans (hf_6.2.1)), ((show τc_9 814 = τ_6 814 by rw [← hτc_9]; exact fr_s_X6_nextTrial τ_6 a1 (f := 814) (by decide)).trans (hf_6.2.2.1)), ((show τc_9 815 = τ_6 815 by rw [← hτc_9]; exact fr_s_X6_nextTrial τ_6 a1 (f := 815) (by decide)).trans (hf_6.2.2.2.1)), ((show τc_9 607 = τ_6 607 by rw [← hτc_9]; exact fr_s_X6_nextTrial τ_6 a1 (f := 607) (by decide)).trans (hf_6.2.2.2.2.1)), ((show τc_9 608 = τ_6 608 by rw [← hτc_9]; exact fr_s_X6_nextTrial τ_6 a1 (f := 608) (by decide)).trans (hf_6.2.2.2.2.2))⟩) (by rw [← hτc_9]; exact tr_next ht_6 ha) _ _ _ hR hP hD hS (lv_sub hl [0, 1, 2, 3, 4] rfl)
        refine lv_if_eq (tgt := 86) hx hb dX6_choose_48 (by decide) (fun c_10 => ?_) (fun c_10 => ?_)
        · have hB_2 := (if_pos c_10).symm.trans hB_2
          exact hJ_6 v2_2 τ_2 hI_2 (⟨hf_2.1, hf_2.2.1, hf_2.2.2.1, hf_2.2.2.2.1, hf_2.2.2.2.2.1, hf_2.2.2.2.2.2⟩) ht_2 _ _ _ hB_2 hP hD hS (lv_sub hl [0, 1, 2, 3, 4] rfl)
        · have hB_2 := (if_neg c_10).symm.trans hB_2
          refine lv_aload_n hx hb dX6_choose_51 rfl (lv_at hl 3 rfl) ?_
          have hF := pw_free hD hS hA
          refine va_calli (va_runV (As := []) (rest := []) ⟨hx, hb, hml, hown, hts⟩ (k_X6_hungerOfTrial l D ca h ad pa tb τ_2 H.size hI_2 ht_2 _ _ (Prod.eta _).symm) (cwV 0 hts gX6_choose_X6_hungerOfTrial rfl rfl rfl (by decide +kernel) ⟨Nat.le_of_ble_eq_true rfl, Nat.le_of_ble_eq_true rfl⟩) ⟨cw_blind, va_recv hK hP (ci := 6) (q0 := 5) rfl wc_5, cw_give hP hK hD hZ hS hF⟩ rfl rfl hl.1 rfl (lv_room (Nat.le_of_ble_eq_true rfl)) dX6_choose_52 ⟨Nat.le_of_ble_eq_true rfl, Nat.le_of_ble_eq_true rfl⟩) hS (fun q _ h => hF q h) hF (fun r_11 u t H1 locs ht hvm hw hB hz1 hk1 hS => ?_)
          rw [hw]
          obtain ⟨hB, hI_12⟩ := hB
          obtain ⟨hP, hD⟩ := pw_back hF ht hB
          clear hB hk1 hz1 hF
          generalize H1 = H at hP hS ⊢
          obtain ⟨τc_13, hτc_13⟩ : ∃ t9, (s_X6_hungerOfTrial τ_2).2 = t9 := ⟨_, rfl⟩
          rw [hτc_13] at hP hD hI_12
          (try rw [hτc_13] at hB_2)
          obtain ⟨vc_14, hvc_14⟩ : ∃ t9, (s_X6_hungerOfTrial τ_2).1 = t9 := ⟨_, rfl⟩
          rw [hvc_14]
          (try rw [hvc_14] at hB_2)
          refine lv_istore (lv' := [(5, .int vc_14), (4, .int (nI k_2)), (3, .int v3_1), (2, .int v2_2), (0, .ref (ad 809)), (1, .int a1)]) hx hb dX6_choose_55 hl (by decide) rfl (fun ls hl => ?_)
          refine lv_iload_n hx hb dX6_choose_57 rfl (lv_at hl 3 rfl) ?_
          refine lv_bipush (v := (-9 : Int32)) hx hb dX6_choose_58 (by decide) ?_
          refine lv_icmp_eq (tgt := 69) hx hb dX6_choose_60 (by decide) (fun c_15 => ?_) (fun c_15 => ?_)
          · have hB_2 := (if_pos c_15).symm.trans hB_2
            refine lv_iload hx hb dX6_choose_69 (lv_at hl 0 rfl) ?_
            refine lv_istore_n (lv' := [(2, .int vc_14), (5, .int vc_14), (4, .int (nI k_2)), (3, .int v3_1), (0, .ref (ad 809)), (1, .int a1)]) hx hb dX6_choose_71 rfl hl (by decide) rfl (fun ls hl => ?_)
            refine lv_aload_n hx hb dX6_choose_72 rfl (lv_at hl 4 rfl) ?_
            refine va_get (D := D) (ci := 6) (v := .ref (ad 602)) (C := RX6) (T := TX6) (N := 10) hx hb hts hu6 hown hK hP 5 wc_5 rfl 2 (by decide) (hts (.fieldLink RX6 20 "GrazeBook$Turns" "trial" "[I") (List.mem_cons_of_mem _ mw_177)) (fun _ h9 => h9) rfl dX6_choose_73 ?_
            refine lv_iconst (v := (0 : Int32)) hx hb dX6_choose_76 (by decide) ?_
            refine lv_aload_n hx hb dX6_choose_77 rfl (lv_at hl 4 rfl) ?_
            refine va_get (D := D) (ci := 6) (v := .ref (ad 603)) (C := RX6) (T := TX6) (N := 10) hx hb hts hu6 hown hK hP 5 wc_5 rfl 3 (by decide) (hts (.fieldLink RX6 23 "GrazeBook$Turns" "best" "[I") (List.mem_cons_of_mem _ mw_178)) (fun _ h9 => h9) rfl dX6_choose_78 ?_
            refine lv_iconst (v := (0 : Int32)) hx hb dX6_choose_81 (by decide) ?_
            refine lv_iconst (v := (4 : Int32)) hx hb dX6_choose_82 (by decide) ?_
            refine va_copyi hx hb (hml.trans hl.1.symm) hown (hts (.methodLink RX6 62 arraycopyName) (List.mem_cons_of_mem _ mw_714)) (hts (.native arraycopyName) (List.mem_cons_of_mem _ mw_716)) (hts (.static arraycopyName) (List.mem_cons_of_mem _ mw_715)) (hts (.initialized "java/lang/System") (List.mem_cons_of_mem _ mw_69)) hK hP hD hS 23 24 0 0 wc_23 wc_24 rfl rfl rfl (by decide) (by decide) (by decide) (by decide) (by decide) (fun _ _ => rfl) (Nat.le_of_ble_eq_true rfl) (Nat.le_of_ble_eq_true rfl) dX6_choose_83 (fun H locs hP hD hS => ?_)
            rw [wc_cpy] at hP hD
            exact hJ_6 vc_14 (pcpy τc_13) hI_12 (⟨((show τc_13 811 = τ_2 811 by rw [← hτc_13]; exact fr_s_X6_hungerOfTrial τ_2 (f := 811) (by decide)).trans (hf_2.1)), ((show τc_13 812 = τ_2 812 by rw [← hτc_13]; exact fr_s_X6_hungerOfTrial τ_2 (f := 812) (by decide)).trans (hf_2.2.1)), ((show τc_13 814 = τ_2 814 by rw [← hτc_13]; exact fr_s_X6_hungerOfTrial τ_2 (f := 814) (by decide)).trans (hf_2.2.2.1)), ((show τc_13 815 = τ_2 815 by rw [← hτc_13]; exact fr_s_X6_hungerOfTrial τ_2 (f := 815) (by decide)).trans (hf_2.2.2.2.1)), ((show τc_13 607 = τ_2 607 by rw [← hτc_13]; exact fr_s_X6_hungerOfTrial τ_2 (f := 607) (by decide)).trans (hf_2.2.2.2.2.1)), ((show τc_13 608 = τ_2 608 by rw [← hτc_13]; exact fr_s_X6_hungerOfTrial τ_2 (f := 608) (by decide)).trans (hf_2.2.2.2.2.2))⟩) (by rw [← hτc_13]; exact TR_cast ht_2 (fr_s_X6_hungerOfTrial τ_2 (f := 602) (by decide)) (fr_s_X6_hungerOfTrial τ_2 (f := 607) (by decide)) (fr_s_X6_hungerOfTrial τ_2 (f := 608) (by decide))) _ _ _ hB_2 hP hD hS (lv_sub hl [2, 3, 0, 4, 5] rfl)
          · have hB_2 := (if_neg c_15).symm.trans hB_2
            refine lv_iload hx hb dX6_choose_63 (lv_at hl 0 rfl) ?_
            refine lv_iload_n hx hb dX6_choose_65 rfl (lv_at hl 3 rfl) ?_
            refine lv_icmp_ge (tgt := 86) hx hb dX6_choose_66 (by decide) (fun c_16 => ?_) (fun c_16 => ?_)
            · have hB_2 := (if_pos c_16).symm.trans hB_2
              exact hJ_6 v2_2 τc_13 hI_12 (⟨((show τc_13 811 = τ_2 811 by rw [← hτc_13]; exact fr_s_X6_hungerOfTrial τ_2 (f := 811) (by decide)).trans (hf_2.1)), ((show τc_13 812 = τ_2 812 by rw [← hτc_13]; exact fr_s_X6_hungerOfTrial τ_2 (f := 812) (by decide)).trans (hf_2.2.1)), ((show τc_13 814 = τ_2 814 by rw [← hτc_13]; exact fr_s_X6_hungerOfTrial τ_2 (f := 814) (by decide)).trans (hf_2.2.2.1)), ((show τc_13 815 = τ_2 815 by rw [← hτc_13]; exact fr_s_X6_hungerOfTrial τ_2 (f := 815) (by decide)).trans (hf_2.2.2.2.1)), ((show τc_13 607 = τ_2 607 by rw [← hτc_13]; exact fr_s_X6_hungerOfTrial τ_2 (f := 607) (by decide)).trans (hf_2.2.2.2.2.1)), ((show τc_13 608 = τ_2 608 by rw [← hτc_13]; exact fr_s_X6_hungerOfTrial τ_2 (f := 608) (by decide)).trans (hf_2.2.2.2.2.2))⟩) (by rw [← hτc_13]; exact TR_cast ht_2 (fr_s_X6_hungerOfTrial τ_2 (f := 602) (by decide)) (fr_s_X6_hungerOfTrial τ_2 (f := 607) (by decide)) (fr_s_X6_hungerOfTrial τ_2 (f := 608) (by decide))) _ _ _ hB_2 hP hD hS (lv_sub hl [1, 2, 3, 4, 5] rfl)
            · have hB_2 := (if_neg c_16).symm.trans hB_2
              refine lv_iload hx hb dX6_choose_69 (lv_at hl 0 rfl) ?_
              refine lv_istore_n (lv' := [(2, .int vc_14), (5, .int vc_14), (4, .int (nI k_2)), (3, .int v3_1), (0, .ref (ad 809)), (1, .int a1)]) hx hb dX6_choose_71 rfl hl (by decide) rfl (fun ls hl => ?_)
              refine lv_aload_n hx hb dX6_choose_72 rfl (lv_at hl 4 rfl) ?_
              refine va_get (D := D) (ci := 6) (v := .ref (ad 602)) (C := RX6) (T := TX6) (N := 10) hx hb hts hu6 hown hK hP 5 wc_5 rfl 2 (by decide) (hts (.fieldLink RX6 20 "GrazeBook$Turns" "trial" "[I") (List.mem_cons_of_mem _ mw_177)) (fun _ h9 => h9) rfl dX6_choose_73 ?_
              refine lv_iconst (v := (0 : Int32)) hx hb dX6_choose_76 (by decide) ?_
              refine lv_aload_n hx hb dX6_choose_77 rfl (lv_at hl 4 rfl) ?_
              refine va_get (D := D) (ci := 6) (v := .ref (ad 603)) (C := RX6) (T := TX6) (N := 10) hx hb hts hu6 hown hK hP 5 wc_5 rfl 3 (by decide) (hts (.fieldLink RX6 23 "GrazeBook$Turns" "best" "[I") (List.mem_cons_of_mem _ mw_178)) (fun _ h9 => h9) rfl dX6_choose_78 ?_
              refine lv_iconst (v := (0 : Int32)) hx hb dX6_choose_81 (by decide) ?_
              refine lv_iconst (v := (4 : Int32)) hx hb dX6_choose_82 (by decide) ?_
              refine va_copyi hx hb (hml.trans hl.1.symm) hown (hts (.methodLink RX6 62 arraycopyName) (List.mem_cons_of_mem _ mw_714)) (hts (.native arraycopyName) (List.mem_cons_of_mem _ mw_716)) (hts (.static arraycopyName) (List.mem_cons_of_mem _ mw_715)) (hts (.initialized "java/lang/System") (List.mem_cons_of_mem _ mw_69)) hK hP hD hS 23 24 0 0 wc_23 wc_24 rfl rfl rfl (by decide) (by decide) (by decide) (by decide) (by decide) (fun _ _ => rfl) (Nat.le_of_ble_eq_true rfl) (Nat.le_of_ble_eq_true rfl) dX6_choose_83 (fun H locs hP hD hS => ?_)
              rw [wc_cpy] at hP hD
              exact hJ_6 vc_14 (pcpy τc_13) hI_12 (⟨((show τc_13 811 = τ_2 811 by rw [← hτc_13]; exact fr_s_X6_hungerOfTrial τ_2 (f := 811) (by decide)).trans (hf_2.1)), ((show τc_13 812 = τ_2 812 by rw [← hτc_13]; exact fr_s_X6_hungerOfTrial τ_2 (f := 812) (by decide)).trans (hf_2.2.1)), ((show τc_13 814 = τ_2 814 by rw [← hτc_13]; exact fr_s_X6_hungerOfTrial τ_2 (f := 814) (by decide)).trans (hf_2.2.2.1)), ((show τc_13 815 = τ_2 815 by rw [← hτc_13]; exact fr_s_X6_hungerOfTrial τ_2 (f := 815) (by decide)).trans (hf_2.2.2.2.1)), ((show τc_13 607 = τ_2 607 by rw [← hτc_13]; exact fr_s_X6_hungerOfTrial τ_2 (f := 607) (by decide)).trans (hf_2.2.2.2.2.1)), ((show τc_13 608 = τ_2 608 by rw [← hτc_13]; exact fr_s_X6_hungerOfTrial τ_2 (f := 608) (by decide)).trans (hf_2.2.2.2.2.2))⟩) (by rw [← hτc_13]; exact TR_cast ht_2 (fr_s_X6_hungerOfTrial τ_2 (f := 602) (by decide)) (fr_s_X6_hungerOfTrial τ_2 (f := 607) (by decide)) (fr_s_X6_hungerOfTrial τ_2 (f := 608) (by decide))) _ _ _ hB_2 hP hD hS (lv_sub hl [2, 3, 0, 4, 5] rfl)
    exact hL_2 _ 0 (-9 : Int32) τ_1 ⟨rfl, by decide⟩ hI_1 (⟨hf_1.1, hf_1.2.1, hf_1.2.2.1, hf_1.2.2.2.1, hf_1.2.2.2.2.1, hf_1.2.2.2.2.2⟩) ht_1 _ _ _ hR hP hD hS (lv_sub hl [0, 1, 2, 3, 4] rfl)
  have hL_1 : ∀ (n k_1 : Nat) (v3_1 : Int32) (τ_1 : St) (hk_1 : lpk (s_X6_slots τ_1) k_1 n) (hI_1 : IX τ_1) (hf_1 : τ_1 811 = σ 811 ∧ τ_1 812 = σ 812 ∧ τ_1 814 = σ 814 ∧ τ_1 815 = σ 815 ∧ τ_1 607 = σ 607 ∧ τ_1 608 = σ 608) (ht_1 : ∀ j : Nat, j < k_1 → vp_in (τ_1 602 j) 6) (H : Heap) (locs : List Loc) (ls : Array Slot), s_X6_choose_c8 a1 (iter (s_X6_choose_l8 a1) n k_1 (v3_1, τ_1)) = (R1, R2) → va_P D vwCl (WC ca h ad pa τ_1) H → va_D A (WC ca h ad pa τ_1) → va_S A s.heap H locs → lv_has ls 6 [(4, .int (nI k_1)), (3, .int v3_1), (2, .int (-9 : Int32)), (0, .ref (ad 809)), (1, .int a1)] → W p l e ((headSpec wsX6_choose ({ frames := 3, cells := 0, slots := 0, locals := 55 })).room) s m ([.ref (ad 809), .int a1] : List Value).toArray below meth c H locs 0 0 QQ (F0 m 8 ls []) := by
    intro n
    induction n with
    | zero =>
      intro k_1 v3_1 τ_1 hk_1 hI_1 hf_1 ht_1 H locs ls hR hP hD hS hl
      refine lv_iload hx hb dX6_choose_8 (lv_at hl 0 rfl) ?_
      refine lv_aload_n hx hb dX6_choose_10 rfl (lv_at hl 3 rfl) ?_
      have hF := pw_free hD hS hA
      refine va_calli (va_runV (As := []) (rest := [.int (nI k_1)]) ⟨hx, hb, hml, hown, hts⟩ (k_X6_slots l D ca h ad pa tb τ_1 H.size hI_1 _ rfl) (cwV 0 hts gX6_choose_X6_slots rfl rfl rfl (by decide +kernel) ⟨Nat.le_of_ble_eq_true rfl, Nat.le_of_ble_eq_true rfl⟩) ⟨cw_blind, va_recv hK hP (ci := 6) (q0 := 5) rfl wc_5, cw_give hP hK hD hZ hS hF⟩ rfl rfl hl.1 rfl (lv_room (Nat.le_of_ble_eq_true rfl)) dX6_choose_11 ⟨Nat.le_of_ble_eq_true rfl, Nat.le_of_ble_eq_true rfl⟩) hS (fun q _ h => hF q h) hF (fun r_17 u t H1 locs ht hvm hw hB hz1 hk1 hS => ?_)
      rw [hw]
      obtain ⟨hP, hD⟩ := pw_back hF ht hB
      clear hB hk1 hz1 hF
      generalize H1 = H at hP hS ⊢
      refine lv_icmp_ge (tgt := 35) hx hb dX6_choose_14 (by decide) (fun _ => ?_) (fun c_18 => absurd (ge_end hk_1) c_18)
      exact hE_1 v3_1 τ_1 hI_1 hf_1 (fun p hp => ht_1 p (Nat.lt_of_lt_of_le hp (k_le0 hk_1))) _ _ _ hR hP hD hS (lv_sub hl [1, 2, 3, 4] rfl)
    | succ n ih =>
      intro k_1 v3_1 τ_1 hk_1 hI_1 hf_1 ht_1 H locs ls hR hP hD hS hl
      obtain ⟨S_1, hB_1⟩ : ∃ s9, s_X6_choose_l8 a1 k_1 (v3_1, τ_1) = s9 := ⟨_, rfl⟩
      have hR : s_X6_choose_c8 a1 (iter (s_X6_choose_l8 a1) n (k_1 + 1) S_1) = (R1, R2) := by rw [← hB_1]; exact hR
      have hB_1 : ((v3_1 * a1), (put τ_1 602 k_1 (0 : Int32))) = S_1 := hB_1
      refine lv_iload hx hb dX6_choose_8 (lv_at hl 0 rfl) ?_
      refine lv_aload_n hx hb dX6_choose_10 rfl (lv_at hl 3 rfl) ?_
      have hF := pw_free hD hS hA
      refine va_calli (va_runV (As := []) (rest := [.int (nI k_1)]) ⟨hx, hb, hml, hown, hts⟩ (k_X6_slots l D ca h ad pa tb τ_1 H.size hI_1 _ rfl) (cwV 0 hts gX6_choose_X6_slots rfl rfl rfl (by decide +kernel) ⟨Nat.le_of_ble_eq_true rfl, Nat.le_of_ble_eq_true rfl⟩) ⟨cw_blind, va_recv hK hP (ci := 6) (q0 := 5) rfl wc_5, cw_give hP hK hD hZ hS hF⟩ rfl rfl hl.1 rfl (lv_room (Nat.le_of_ble_eq_true rfl)) dX6_choose_11 ⟨Nat.le_of_ble_eq_true rfl, Nat.le_of_ble_eq_true rfl⟩) hS (fun q _ h => hF q h) hF (fun r_19 u t H1 locs ht hvm hw hB hz1 hk1 hS => ?_)
      rw [hw]
      obtain ⟨hP, hD⟩ := pw_back hF ht hB
      clear hB hk1 hz1 hF
      generalize H1 = H at hP hS ⊢
      refine lv_icmp_ge (tgt := 35) hx hb dX6_choose_14 (by decide) (fun c_20 => absurd c_20 (ge_go hk_1)) (fun _ => ?_)
      refine lv_aload_n hx hb dX6_choose_17 rfl (lv_at hl 3 rfl) ?_
      refine va_get (D := D) (ci := 6) (v := .ref (ad 602)) (C := RX6) (T := TX6) (N := 10) hx hb hts hu6 hown hK hP 5 wc_5 rfl 2 (by decide) (hts (.fieldLink RX6 20 "GrazeBook$Turns" "trial" "[I") (List.mem_cons_of_mem _ mw_177)) (fun _ h9 => h9) rfl dX6_choose_18 ?_
      refine lv_iload hx hb dX6_choose_21 (lv_at hl 0 rfl) ?_
      refine lv_iconst (v := (0 : Int32)) hx hb dX6_choose_23 (by decide) ?_
      refine va_iast_k (k := k_1) hx hb hK hP hD hS 23 0 wc_23 rfl (ix_cl hk_1) (ix_loop (N := 4) hk_1 (slots_ok hI_1) (by decide) (by decide)) dX6_choose_24 (fun H locs hP hD hS => ?_)
      rw [wc_s602] at hP hD
      refine lv_iload_n hx hb dX6_choose_25 rfl (lv_at hl 1 rfl) ?_
      refine lv_iload_n hx hb dX6_choose_26 rfl (lv_at hl 4 rfl) ?_
      refine lv_imul hx hb dX6_choose_27 ?_
      refine lv_istore_n (lv' := [(3, .int (v3_1 * a1)), (4, .int (nI k_1)), (2, .int (-9 : Int32)), (0, .ref (ad 809)), (1, .int a1)]) hx hb dX6_choose_28 rfl hl (by decide) rfl (fun ls hl => ?_)
      refine lv_iinc (v := (nI (k_1 + 1))) (lv' := [(4, .int (nI (k_1 + 1))), (3, .int (v3_1 * a1)), (2, .int (-9 : Int32)), (0, .ref (ad 809)), (1, .int a1)]) hx hb dX6_choose_29 hl (k := 1) rfl (by rw [show Int32.ofInt 1 = 1 from by decide]; exact nI_1 _) (by decide) rfl (fun ls hl => ?_)
      refine lv_goto (tgt := 8) hx hb dX6_choose_32 (by decide) ?_
      subst hB_1
      exact ih (k_1 + 1) (v3_1 * a1) (put τ_1 602 k_1 (0 : Int32)) (ge_next hk_1) hI_1 (⟨hf_1.1, hf_1.2.1, hf_1.2.2.1, hf_1.2.2.2.1, hf_1.2.2.2.2.1, hf_1.2.2.2.2.2⟩) (tr_0 ht_1) _ _ _ hR hP hD hS (lv_sub hl [0, 1, 2, 3, 4] rfl)
  exact hL_1 _ 0 (1 : Int32) σ ⟨rfl, by decide⟩ hI (⟨rfl, rfl, rfl, rfl, rfl, rfl⟩) (fun p hp => absurd hp (Nat.not_lt_zero p)) _ _ _ hR hP hD hS (lv_sub hl [0, 1, 2, 3, 4] rfl)

def s_X8_plan_c114 (σ : St) (a1 : Int32) (a2 : Int32) (a3 : Int32) (a4 : Int32) : Unit → Int32 × St := fun x9 => match x9 with
  | _ => (if ((σ 816 0) + (a3 * a4)) ≤ (720 : Int32) then (((s_X6_choose (s_X8_reckonTurns (s_X6_begin σ a1 a2 a3 a4)) ((s_X8_reckonTurns (s_X6_begin σ a1 a2 a3 a4)) 811 0)).1), ((s_X6_choose (s_X8_reckonTurns (s_X6_begin σ a1 a2 a3 a4)) ((s_X8_reckonTurns (s_X6_begin σ a1 a2 a3 a4)) 811 0)).2)) else (((s_X8_refuse σ (-6 : Int32)).1), ((s_X8_refuse σ (-6 : Int32)).2)))
def s_X8_plan_c114r (σ : St) (a1 : Int32) (a2 : Int32) (a3 : Int32) (a4 : Int32) : Sum (Int32 × St) Unit → Int32 × St := fun x9 => match x9 with
  | .inl r => r
  | .inr s => s_X8_plan_c114 σ a1 a2 a3 a4 s
def s_X8_plan_l114 (σ : St) (a4 : Int32) (k_36 : Nat) : Unit → Sum (Int32 × St) Unit := fun x9 => match x9 with
  | _ => (if (s_X8_openPieces σ (((σ 816 0) + (1 : Int32)) + ((nI k_36) * a4))) = (0 : Int32) then (Sum.inl (((s_X8_refuse σ (-3 : Int32)).1), ((s_X8_refuse σ (-3 : Int32)).2))) else (Sum.inr ()))
def s_X8_plan_c114_1 (σ : St) (a1 : Int32) (a2 : Int32) (a3 : Int32) (a4 : Int32) : Unit → Int32 × St := fun x9 => match x9 with
  | _ => (if ((σ 816 0) + (a3 * a4)) ≤ (720 : Int32) then (((s_X6_choose (s_X8_reckonTurns (s_X6_begin σ a1 a2 a3 a4)) ((s_X8_reckonTurns (s_X6_begin σ a1 a2 a3 a4)) 811 0)).1), ((s_X6_choose (s_X8_reckonTurns (s_X6_begin σ a1 a2 a3 a4)) ((s_X8_reckonTurns (s_X6_begin σ a1 a2 a3 a4)) 811 0)).2)) else (((s_X8_refuse σ (-6 : Int32)).1), ((s_X8_refuse σ (-6 : Int32)).2)))
def s_X8_plan_c114r_1 (σ : St) (a1 : Int32) (a2 : Int32) (a3 : Int32) (a4 : Int32) : Sum (Int32 × St) Unit → Int32 × St := fun x9 => match x9 with
  | .inl r => r
  | .inr s => s_X8_plan_c114_1 σ a1 a2 a3 a4 s
def s_X8_plan_l114_1 (σ : St) (a4 : Int32) (k_90 : Nat) : Unit → Sum (Int32 × St) Unit := fun x9 => match x9 with
  | _ => (if (s_X8_openPieces σ (((σ 816 0) + (1 : Int32)) + ((nI k_90) * a4))) = (0 : Int32) then (Sum.inl (((s_X8_refuse σ (-3 : Int32)).1), ((s_X8_refuse σ (-3 : Int32)).2))) else (Sum.inr ()))
def s_X8_plan (σ : St) (a1 : Int32) (a2 : Int32) (a3 : Int32) (a4 : Int32) : Int32 × St := (if (s_X8_isHerd σ a1) = (0 : Int32) then (((s_X8_refuse σ (-1 : Int32)).1), ((s_X8_refuse σ (-1 : Int32)).2)) else (if a1 = a2 then (((s_X8_refuse σ (-1 : Int32)).1), ((s_X8_refuse σ (-1 : Int32)).2)) else (if a2 = (-1 : Int32) then (if a3 < (1 : Int32) then (((s_X8_refuse σ (-2 : Int32)).1), ((s_X8_refuse σ (-2 : Int32)).2)) else (if (4 : Int32) < a3 then (((s_X8_refuse σ (-2 : Int32)).1), ((s_X8_refuse σ (-2 : Int32)).2)) else (if a4 < (1 : Int32) then (((s_X8_refuse σ (-2 : Int32)).1), ((s_X8_refuse σ (-2 : Int32)).2)) else (if a4 ≤ (10 : Int32) then (if (σ 206 (a1.toNatClampNeg)) = (0 : Int32) then (s_X8_plan_c114r σ a1 a2 a3 a4 (iterR (s_X8_plan_l114 σ a4) (a3.toNatClampNeg - 0) 0 ())) else (((s_X8_refuse σ (-3 : Int32)).1), ((s_X8_refuse σ (-3 : Int32)).2))) else (((s_X8_refuse σ (-2 : Int32)).1), ((s_X8_refuse σ (-2 : Int32)).2)))))) else (if (s_X8_isHerd σ a2) = (0 : Int32) then (((s_X8_refuse σ (-1 : Int32)).1), ((s_X8_refuse σ (-1 : Int32)).2)) else (if a3 < (1 : Int32) then (((s_X8_refuse σ (-2 : Int32)).1), ((s_X8_refuse σ (-2 : Int32)).2)) else (if (2 : Int32) < a3 then (((s_X8_refuse σ (-2 : Int32)).1), ((s_X8_refuse σ (-2 : Int32)).2)) else (if a4 < (1 : Int32) then (((s_X8_refuse σ (-2 : Int32)).1), ((s_X8_refuse σ (-2 : Int32)).2)) else (if a4 ≤ (10 : Int32) then (if (σ 206 (a1.toNatClampNeg)) = (0 : Int32) then (if (σ 206 (a2.toNatClampNeg)) = (0 : Int32) then (s_X8_plan_c114r_1 σ a1 a2 a3 a4 (iterR (s_X8_plan_l114_1 σ a4) (a3.toNatClampNeg - 0) 0 ())) else (((s_X8_refuse σ (-3 : Int32)).1), ((s_X8_refuse σ (-3 : Int32)).2))) else (((s_X8_refuse σ (-3 : Int32)).1), ((s_X8_refuse σ (-3 : Int32)).2))) else (((s_X8_refuse σ (-2 : Int32)).1), ((s_X8_refuse σ (-2 : Int32)).2))))))))))
set_option maxHeartbeats 1000000 in
set_option maxRecDepth 100000 in
theorem k_X8_plan (l : Launch) (D : va_G) (ca : Nat → ClassId) (h : Nat) (ad : Nat → Nat) (pa : Nat → Nat → Nat) (tb : Nat) (σ : St) (a1 : Int32) (a2 : Int32) (a3 : Int32) (a4 : Int32) (sz : Nat) (hI : IX σ)  (R1 : Int32) (R2 : St) (hR : s_X8_plan σ a1 a2 a3 a4 = (R1, R2)) : Met l yX8_plan wsX8_plan ({ frames := 5, cells := 0, slots := 0, locals := 122 }) (va_Pc [.ref h, .int a1, .int a2, .int a3, .int a4] (cw_pre D ca (WC ca h ad pa σ) sz tb)) (va_Qi (fun (r : Int32) (_ : Unit) => r = R1) (fun (_ : Unit) (t : State) => pw_post D ca (WC ca h ad pa σ) sz (WC ca h ad pa R2) t ∧ IX R2) (va_A (WC ca h ad pa σ) sz)) 0 0 (va_A (WC ca h ad pa σ) sz) := by
  refine Met.ofW (cc := cX8_plan) (maxL := 7) (ret := (some .int)) (by decide) rfl ?_
  intro p e s m args below meth c s₁ B hml hv
  obtain ⟨rfl, ⟨hsz, hP, hK, hD0⟩, hZ⟩ := hv
  have hx := B.exec
  have hb := B.bytes
  have hr := B.returns
  have hts := atoms_spec (ws := wsX8_plan) B.pre
  have hown : s.vm.findClass RX8 = some m.cls := findClass_of_methodNamed B.named
  have hlocks := B.notSynchronized
  have hu2 : ∀ w ∈ u_ws RX2 TX2 8, w ∈ wsX8_plan := fun w h => List.mem_cons_of_mem _ (uw2 w h)
  have hu8 : ∀ w ∈ u_ws RX8 TX8 19, w ∈ wsX8_plan := fun w h => List.mem_cons_of_mem _ (uw8 w h)
  subst hsz
  have hD := hD0.self (sz := s.heap.size)
  obtain ⟨A, hAe⟩ : ∃ A, A = va_A (WC ca h ad pa σ) s.heap.size := ⟨_, rfl⟩
  rw [← hAe] at hD hZ ⊢
  have hA : ∀ q : Nat, s.heap.size ≤ q → A q := fun q h => by rw [hAe]; exact Or.inr h
  have hS : va_S A s.heap s.heap [] := va_S.rf
  have hl := lv_entry ([.ref h, .int a1, .int a2, .int a3, .int a4]) (n := 7) (Nat.le_of_ble_eq_true rfl)
  rw [lg_entry_eq]
  generalize (lg_sl ([.ref h, .int a1, .int a2, .int a3, .int a4]) ++ List.replicate (7 - (lg_sl ([.ref h, .int a1, .int a2, .int a3, .int a4])).length) Slot.unset).toArray = ls at hl ⊢
  have hl : lv_has ls 7 [(0, .ref h), (1, .int a1), (2, .int a2), (3, .int a3), (4, .int a4)] := hl
  obtain ⟨H, hH⟩ : ∃ H, H = s.heap := ⟨_, rfl⟩
  have hP : va_P D vwCl (WC ca h ad pa σ) H := by rw [hH]; exact hP
  have hS : va_S A s.heap H [] := by rw [hH]; exact hS
  obtain ⟨QQ, hQ⟩ : ∃ Q9, Q9 = MQ below (va_Qi (fun (r : Int32) (_ : Unit) => r = R1) (fun (_ : Unit) (t : State) => pw_post D ca (WC ca h ad pa σ) s.heap.size (WC ca h ad pa R2) t ∧ IX R2) A) ([.ref h, .int a1, .int a2, .int a3, .int a4] : List Value).toArray s 0 0 A := ⟨_, rfl⟩
  rw [← hQ]
  show W _ _ _ _ _ _ _ _ _ _ s.heap _ _ _ _ _
  rw [← hH]
  have hR : (if (s_X8_isHerd σ a1) = (0 : Int32) then (((s_X8_refuse σ (-1 : Int32)).1), ((s_X8_refuse σ (-1 : Int32)).2)) else (if a1 = a2 then (((s_X8_refuse σ (-1 : Int32)).1), ((s_X8_refuse σ (-1 : Int32)).2)) else (if a2 = (-1 : Int32) then (if a3 < (1 : Int32) then (((s_X8_refuse σ (-2 : Int32)).1), ((s_X8_refuse σ (-2 : Int32)).2)) else (if (4 : Int32) < a3 then (((s_X8_refuse σ (-2 : Int32)).1), ((s_X8_refuse σ (-2 : Int32)).2)) else (if a4 < (1 : Int32) then (((s_X8_refuse σ (-2 : Int32)).1), ((s_X8_refuse σ (-2 : Int32)).2)) else (if a4 ≤ (10 : Int32) then (if (σ 206 (a1.toNatClampNeg)) = (0 : Int32) then (s_X8_plan_c114r σ a1 a2 a3 a4 (iterR (s_X8_plan_l114 σ a4) (a3.toNatClampNeg - 0) 0 ())) else (((s_X8_refuse σ (-3 : Int32)).1), ((s_X8_refuse σ (-3 : Int32)).2))) else (((s_X8_refuse σ (-2 : Int32)).1), ((s_X8_refuse σ (-2 : Int32)).2)))))) else (if (s_X8_isHerd σ a2) = (0 : Int32) then (((s_X8_refuse σ (-1 : Int32)).1), ((s_X8_refuse σ (-1 : Int32)).2)) else (if a3 < (1 : Int32) then (((s_X8_refuse σ (-2 : Int32)).1), ((s_X8_refuse σ (-2 : Int32)).2)) else (if (2 : Int32) < a3 then (((s_X8_refuse σ (-2 : Int32)).1), ((s_X8_refuse σ (-2 : Int32)).2)) else (if a4 < (1 : Int32) then (((s_X8_refuse σ (-2 : Int32)).1), ((s_X8_refuse σ (-2 : Int32)).2)) else (if a4 ≤ (10 : Int32) then (if (σ 206 (a1.toNatClampNeg)) = (0 : Int32) then (if (σ 206 (a2.toNatClampNeg)) = (0 : Int32) then (s_X8_plan_c114r_1 σ a1 a2 a3 a4 (iterR (s_X8_plan_l114_1 σ a4) (a3.toNatClampNeg - 0) 0 ())) else (((s_X8_refuse σ (-3 : Int32)).1), ((s_X8_refuse σ (-3 : Int32)).2))) else (((s_X8_refuse σ (-3 : Int32)).1), ((s_X8_refuse σ (-3 : Int32)).2))) else (((s_X8_refuse σ (-2 : Int32)).1), ((s_X8_refuse σ (-2 : Int32)).2)))))))))) = (R1, R2) := hR
  refine lv_aload_n hx hb dX8_plan_0 rfl (lv_at hl 0 rfl) ?_
  refine lv_iload_n hx hb dX8_plan_1 rfl (lv_at hl 1 rfl) ?_
  have hF := pw_free hD hS hA
  refine va_calli (va_runV (As := [.int a1]) (rest := []) ⟨hx, hb, hml, hown, hts⟩ (k_X8_isHerd l D ca h ad pa tb σ a1 H.size hI _ rfl) (cwV 1 hts gX8_plan_X8_isHerd rfl rfl rfl (by decide +kernel) ⟨Nat.le_of_ble_eq_true rfl, Nat.le_of_ble_eq_true rfl⟩) ⟨cw_blind, va_recv hK hP (ci := 8) (q0 := 0) rfl wc_0, cw_give hP hK hD hZ hS hF⟩ rfl rfl hl.1 rfl (lv_room (Nat.le_of_ble_eq_true rfl)) dX8_plan_2 ⟨Nat.le_of_ble_eq_true rfl, Nat.le_of_ble_eq_true rfl⟩) hS (fun q _ h => hF q h) hF (fun r_1 u t H1 locs ht hvm hw hB hz1 hk1 hS => ?_)
  rw [hw]
  obtain ⟨hP, hD⟩ := pw_back hF ht hB
  clear hB hk1 hz1 hF
  generalize H1 = H at hP hS ⊢
  refine lv_if_eq (tgt := 26) hx hb dX8_plan_5 (by decide) (fun c_2 => ?_) (fun c_2 => ?_)
  · have hR := (if_pos c_2).symm.trans hR
    refine lv_aload_n hx hb dX8_plan_26 rfl (lv_at hl 0 rfl) ?_
    refine lv_iconst (v := (-1 : Int32)) hx hb dX8_plan_27 (by decide) ?_
    have hF := pw_free hD hS hA
    refine va_calli (va_runV (As := [.int (-1 : Int32)]) (rest := []) ⟨hx, hb, hml, hown, hts⟩ (k_X8_refuse l D ca h ad pa tb σ (-1 : Int32) H.size hI _ _ (Prod.eta _).symm) (cwV 1 hts gX8_plan_X8_refuse rfl rfl rfl (by decide +kernel) ⟨Nat.le_of_ble_eq_true rfl, Nat.le_of_ble_eq_true rfl⟩) ⟨cw_blind, va_recv hK hP (ci := 8) (q0 := 0) rfl wc_0, cw_give hP hK hD hZ hS hF⟩ rfl rfl hl.1 rfl (lv_room (Nat.le_of_ble_eq_true rfl)) dX8_plan_28 ⟨Nat.le_of_ble_eq_true rfl, Nat.le_of_ble_eq_true rfl⟩) hS (fun q _ h => hF q h) hF (fun r_3 u t H1 locs ht hvm hw hB hz1 hk1 hS => ?_)
    rw [hw]
    obtain ⟨hB, hI_4⟩ := hB
    obtain ⟨hP, hD⟩ := pw_back hF ht hB
    clear hB hk1 hz1 hF
    generalize H1 = H at hP hS ⊢
    obtain ⟨τc_5, hτc_5⟩ : ∃ t9, (s_X8_refuse σ (-1 : Int32)).2 = t9 := ⟨_, rfl⟩
    rw [hτc_5] at hP hD hI_4
    (try rw [hτc_5] at hR)
    obtain ⟨vc_6, hvc_6⟩ : ∃ t9, (s_X8_refuse σ (-1 : Int32)).1 = t9 := ⟨_, rfl⟩
    rw [hvc_6]
    (try rw [hvc_6] at hR)
    have hI9 : IX τc_5 := hI_4
    obtain ⟨rfl, rfl⟩ := Prod.mk.inj (show (vc_6, τc_5) = (R1, R2) from hR)
    rw [hQ]
    exact W.iret (v := vc_6) hx hb hr (fun t ht hW => ⟨⟨vc_6, (), rfl, rfl, ⟨by rw [ht]; exact hP, va_K.moved hW.alike hK, by rw [← hAe]; exact hD⟩, hI9⟩, hS.F ht⟩) hS.2.2 dX8_plan_31
  · have hR := (if_neg c_2).symm.trans hR
    refine lv_iload_n hx hb dX8_plan_8 rfl (lv_at hl 1 rfl) ?_
    refine lv_iload_n hx hb dX8_plan_9 rfl (lv_at hl 2 rfl) ?_
    refine lv_icmp_eq (tgt := 26) hx hb dX8_plan_10 (by decide) (fun c_7 => ?_) (fun c_7 => ?_)
    · have hR := (if_pos c_7).symm.trans hR
      refine lv_aload_n hx hb dX8_plan_26 rfl (lv_at hl 0 rfl) ?_
      refine lv_iconst (v := (-1 : Int32)) hx hb dX8_plan_27 (by decide) ?_
      have hF := pw_free hD hS hA
      refine va_calli (va_runV (As := [.int (-1 : Int32)]) (rest := []) ⟨hx, hb, hml, hown, hts⟩ (k_X8_refuse l D ca h ad pa tb σ (-1 : Int32) H.size hI _ _ (Prod.eta _).symm) (cwV 1 hts gX8_plan_X8_refuse rfl rfl rfl (by decide +kernel) ⟨Nat.le_of_ble_eq_true rfl, Nat.le_of_ble_eq_true rfl⟩) ⟨cw_blind, va_recv hK hP (ci := 8) (q0 := 0) rfl wc_0, cw_give hP hK hD hZ hS hF⟩ rfl rfl hl.1 rfl (lv_room (Nat.le_of_ble_eq_true rfl)) dX8_plan_28 ⟨Nat.le_of_ble_eq_true rfl, Nat.le_of_ble_eq_true rfl⟩) hS (fun q _ h => hF q h) hF (fun r_8 u t H1 locs ht hvm hw hB hz1 hk1 hS => ?_)
      rw [hw]
      obtain ⟨hB, hI_9⟩ := hB
      obtain ⟨hP, hD⟩ := pw_back hF ht hB
      clear hB hk1 hz1 hF
      generalize H1 = H at hP hS ⊢
      obtain ⟨τc_10, hτc_10⟩ : ∃ t9, (s_X8_refuse σ (-1 : Int32)).2 = t9 := ⟨_, rfl⟩
      rw [hτc_10] at hP hD hI_9
      (try rw [hτc_10] at hR)
      obtain ⟨vc_11, hvc_11⟩ : ∃ t9, (s_X8_refuse σ (-1 : Int32)).1 = t9 := ⟨_, rfl⟩
      rw [hvc_11]
      (try rw [hvc_11] at hR)
      have hI9 : IX τc_10 := hI_9
      obtain ⟨rfl, rfl⟩ := Prod.mk.inj (show (vc_11, τc_10) = (R1, R2) from hR)
      rw [hQ]
      exact W.iret (v := vc_11) hx hb hr (fun t ht hW => ⟨⟨vc_11, (), rfl, rfl, ⟨by rw [ht]; exact hP, va_K.moved hW.alike hK, by rw [← hAe]; exact hD⟩, hI9⟩, hS.F ht⟩) hS.2.2 dX8_plan_31
    · have hR := (if_neg c_7).symm.trans hR
      refine lv_iload_n hx hb dX8_plan_13 rfl (lv_at hl 2 rfl) ?_
      refine lv_iconst (v := (-1 : Int32)) hx hb dX8_plan_14 (by decide) ?_
      refine lv_icmp_eq (tgt := 32) hx hb dX8_plan_15 (by decide) (fun c_12 => ?_) (fun c_12 => ?_)
      · have hR := (if_pos c_12).symm.trans hR
        refine lv_iload_n hx hb dX8_plan_32 rfl (lv_at hl 2 rfl) ?_
        refine lv_iconst (v := (-1 : Int32)) hx hb dX8_plan_33 (by decide) ?_
        refine lv_icmp_ne (tgt := 41) hx hb dX8_plan_34 (by decide) (fun c_13 => absurd c_12 c_13) (fun _ => ?_)
        refine lv_iconst (v := (4 : Int32)) hx hb dX8_plan_37 (by decide) ?_
        refine lv_goto (tgt := 42) hx hb dX8_plan_38 (by decide) ?_
        refine lv_istore (lv' := [(5, .int (4 : Int32)), (0, .ref h), (1, .int a1), (2, .int a2), (3, .int a3), (4, .int a4)]) hx hb dX8_plan_42 hl (by decide) rfl (fun ls hl => ?_)
        refine lv_iload_n hx hb dX8_plan_44 rfl (lv_at hl 4 rfl) ?_
        refine lv_iconst (v := (1 : Int32)) hx hb dX8_plan_45 (by decide) ?_
        refine lv_icmp_lt (tgt := 68) hx hb dX8_plan_46 (by decide) (fun c_14 => ?_) (fun c_14 => ?_)
        · have hR := (if_pos c_14).symm.trans hR
          refine lv_aload_n hx hb dX8_plan_68 rfl (lv_at hl 1 rfl) ?_
          refine lv_bipush (v := (-2 : Int32)) hx hb dX8_plan_69 (by decide) ?_
          have hF := pw_free hD hS hA
          refine va_calli (va_runV (As := [.int (-2 : Int32)]) (rest := []) ⟨hx, hb, hml, hown, hts⟩ (k_X8_refuse l D ca h ad pa tb σ (-2 : Int32) H.size hI _ _ (Prod.eta _).symm) (cwV 1 hts gX8_plan_X8_refuse rfl rfl rfl (by decide +kernel) ⟨Nat.le_of_ble_eq_true rfl, Nat.le_of_ble_eq_true rfl⟩) ⟨cw_blind, va_recv hK hP (ci := 8) (q0 := 0) rfl wc_0, cw_give hP hK hD hZ hS hF⟩ rfl rfl hl.1 rfl (lv_room (Nat.le_of_ble_eq_true rfl)) dX8_plan_71 ⟨Nat.le_of_ble_eq_true rfl, Nat.le_of_ble_eq_true rfl⟩) hS (fun q _ h => hF q h) hF (fun r_15 u t H1 locs ht hvm hw hB hz1 hk1 hS => ?_)
          rw [hw]
          obtain ⟨hB, hI_16⟩ := hB
          obtain ⟨hP, hD⟩ := pw_back hF ht hB
          clear hB hk1 hz1 hF
          generalize H1 = H at hP hS ⊢
          obtain ⟨τc_17, hτc_17⟩ : ∃ t9, (s_X8_refuse σ (-2 : Int32)).2 = t9 := ⟨_, rfl⟩
          rw [hτc_17] at hP hD hI_16
          (try rw [hτc_17] at hR)
          obtain ⟨vc_18, hvc_18⟩ : ∃ t9, (s_X8_refuse σ (-2 : Int32)).1 = t9 := ⟨_, rfl⟩
          rw [hvc_18]
          (try rw [hvc_18] at hR)
          have hI9 : IX τc_17 := hI_16
          obtain ⟨rfl, rfl⟩ := Prod.mk.inj (show (vc_18, τc_17) = (R1, R2) from hR)
          rw [hQ]
          exact W.iret (v := vc_18) hx hb hr (fun t ht hW => ⟨⟨vc_18, (), rfl, rfl, ⟨by rw [ht]; exact hP, va_K.moved hW.alike hK, by rw [← hAe]; exact hD⟩, hI9⟩, hS.F ht⟩) hS.2.2 dX8_plan_74
        · have hR := (if_neg c_14).symm.trans hR
          refine lv_iload_n hx hb dX8_plan_49 rfl (lv_at hl 4 rfl) ?_
          refine lv_iload hx hb dX8_plan_50 (lv_at hl 0 rfl) ?_
          refine lv_icmp_gt (tgt := 68) hx hb dX8_plan_52 (by decide) (fun c_19 => ?_) (fun c_19 => ?_)
          · have hR := (if_pos c_19).symm.trans hR
            refine lv_aload_n hx hb dX8_plan_68 rfl (lv_at hl 1 rfl) ?_
            refine lv_bipush (v := (-2 : Int32)) hx hb dX8_plan_69 (by decide) ?_
            have hF := pw_free hD hS hA
            refine va_calli (va_runV (As := [.int (-2 : Int32)]) (rest := []) ⟨hx, hb, hml, hown, hts⟩ (k_X8_refuse l D ca h ad pa tb σ (-2 : Int32) H.size hI _ _ (Prod.eta _).symm) (cwV 1 hts gX8_plan_X8_refuse rfl rfl rfl (by decide +kernel) ⟨Nat.le_of_ble_eq_true rfl, Nat.le_of_ble_eq_true rfl⟩) ⟨cw_blind, va_recv hK hP (ci := 8) (q0 := 0) rfl wc_0, cw_give hP hK hD hZ hS hF⟩ rfl rfl hl.1 rfl (lv_room (Nat.le_of_ble_eq_true rfl)) dX8_plan_71 ⟨Nat.le_of_ble_eq_true rfl, Nat.le_of_ble_eq_true rfl⟩) hS (fun q _ h => hF q h) hF (fun r_20 u t H1 locs ht hvm hw hB hz1 hk1 hS => ?_)
            rw [hw]
            obtain ⟨hB, hI_21⟩ := hB
            obtain ⟨hP, hD⟩ := pw_back hF ht hB
            clear hB hk1 hz1 hF
            generalize H1 = H at hP hS ⊢
            obtain ⟨τc_22, hτc_22⟩ : ∃ t9, (s_X8_refuse σ (-2 : Int32)).2 = t9 := ⟨_, rfl⟩
            rw [hτc_22] at hP hD hI_21
            (try rw [hτc_22] at hR)
            obtain ⟨vc_23, hvc_23⟩ : ∃ t9, (s_X8_refuse σ (-2 : Int32)).1 = t9 := ⟨_, rfl⟩
            rw [hvc_23]
            (try rw [hvc_23] at hR)
            have hI9 : IX τc_22 := hI_21
            obtain ⟨rfl, rfl⟩ := Prod.mk.inj (show (vc_23, τc_22) = (R1, R2) from hR)
            rw [hQ]
            exact W.iret (v := vc_23) hx hb hr (fun t ht hW => ⟨⟨vc_23, (), rfl, rfl, ⟨by rw [ht]; exact hP, va_K.moved hW.alike hK, by rw [← hAe]; exact hD⟩, hI9⟩, hS.F ht⟩) hS.2.2 dX8_plan_74
          · have hR := (if_neg c_19).symm.trans hR
            refine lv_iload hx hb dX8_plan_55 (lv_at hl 5 rfl) ?_
            refine lv_iconst (v := (1 : Int32)) hx hb dX8_plan_57 (by decide) ?_
            refine lv_icmp_lt (tgt := 68) hx hb dX8_plan_58 (by decide) (fun c_24 => ?_) (fun c_24 => ?_)
            · have hR := (if_pos c_24).symm.trans hR
              refine lv_aload_n hx hb dX8_plan_68 rfl (lv_at hl 1 rfl) ?_
              refine lv_bipush (v := (-2 : Int32)) hx hb dX8_plan_69 (by decide) ?_
              have hF := pw_free hD hS hA
              refine va_calli (va_runV (As := [.int (-2 : Int32)]) (rest := []) ⟨hx, hb, hml, hown, hts⟩ (k_X8_refuse l D ca h ad pa tb σ (-2 : Int32) H.size hI _ _ (Prod.eta _).symm) (cwV 1 hts gX8_plan_X8_refuse rfl rfl rfl (by decide +kernel) ⟨Nat.le_of_ble_eq_true rfl, Nat.le_of_ble_eq_true rfl⟩) ⟨cw_blind, va_recv hK hP (ci := 8) (q0 := 0) rfl wc_0, cw_give hP hK hD hZ hS hF⟩ rfl rfl hl.1 rfl (lv_room (Nat.le_of_ble_eq_true rfl)) dX8_plan_71 ⟨Nat.le_of_ble_eq_true rfl, Nat.le_of_ble_eq_true rfl⟩) hS (fun q _ h => hF q h) hF (fun r_25 u t H1 locs ht hvm hw hB hz1 hk1 hS => ?_)
              rw [hw]
              obtain ⟨hB, hI_26⟩ := hB
              obtain ⟨hP, hD⟩ := pw_back hF ht hB
              clear hB hk1 hz1 hF
              generalize H1 = H at hP hS ⊢
              obtain ⟨τc_27, hτc_27⟩ : ∃ t9, (s_X8_refuse σ (-2 : Int32)).2 = t9 := ⟨_, rfl⟩
              rw [hτc_27] at hP hD hI_26
              (try rw [hτc_27] at hR)
              obtain ⟨vc_28, hvc_28⟩ : ∃ t9, (s_X8_refuse σ (-2 : Int32)).1 = t9 := ⟨_, rfl⟩
              rw [hvc_28]
              (try rw [hvc_28] at hR)
              have hI9 : IX τc_27 := hI_26
              obtain ⟨rfl, rfl⟩ := Prod.mk.inj (show (vc_28, τc_27) = (R1, R2) from hR)
              rw [hQ]
              exact W.iret (v := vc_28) hx hb hr (fun t ht hW => ⟨⟨vc_28, (), rfl, rfl, ⟨by rw [ht]; exact hP, va_K.moved hW.alike hK, by rw [← hAe]; exact hD⟩, hI9⟩, hS.F ht⟩) hS.2.2 dX8_plan_74
            · have hR := (if_neg c_24).symm.trans hR
              refine lv_iload hx hb dX8_plan_61 (lv_at hl 5 rfl) ?_
              refine lv_bipush (v := (10 : Int32)) hx hb dX8_plan_63 (by decide) ?_
              refine lv_icmp_le (tgt := 75) hx hb dX8_plan_65 (by decide) (fun c_29 => ?_) (fun c_29 => ?_)
              · have hR := (if_pos c_29).symm.trans hR
                refine lv_aload_n hx hb dX8_plan_75 rfl (lv_at hl 1 rfl) ?_
                refine va_get (D := D) (ci := 8) (v := .ref (ad 805)) (C := RX8) (T := TX8) (N := 19) hx hb hts hu8 hown hK hP 0 wc_0 rfl 5 (by decide) (hts (.fieldLink RX8 40 "GrazeBook" "herds" "[LGrazeBook$Drove;") (List.mem_cons_of_mem _ mw_215)) (fun _ h9 => h9) rfl dX8_plan_76 ?_
                refine lv_iload_n hx hb dX8_plan_79 rfl (lv_at hl 2 rfl) ?_
                refine va_aldq_k (k := (a1.toNatClampNeg)) (b := pa 3 (a1.toNatClampNeg)) hx hb hK hP 9 5 wc_9 rfl rfl (rf_at (isb_Herd c_2)) (isx_Herd c_2 hI) dX8_plan_80 ?_
                refine va_get (D := D) (ci := 2) (v := .int (σ 206 (a1.toNatClampNeg))) (C := RX2) (T := TX2) (N := 8) hx hb hts hu2 hown hK hP (pcD ca h ad pa σ (a1.toNatClampNeg)) (wc_aD (isb_Herd c_2)) rfl 6 (by decide) (hts (.fieldLink RX8 160 "GrazeBook$Drove" "state" "I") (List.mem_cons_of_mem _ mw_457)) (fun _ h9 => h9) rfl dX8_plan_81 ?_
                refine lv_if_ne (tgt := 104) hx hb dX8_plan_84 (by decide) (fun c_30 => ?_) (fun c_30 => ?_)
                · have hR := (if_neg c_30).symm.trans hR
                  refine lv_aload_n hx hb dX8_plan_104 rfl (lv_at hl 1 rfl) ?_
                  refine lv_bipush (v := (-3 : Int32)) hx hb dX8_plan_105 (by decide) ?_
                  have hF := pw_free hD hS hA
                  refine va_calli (va_runV (As := [.int (-3 : Int32)]) (rest := []) ⟨hx, hb, hml, hown, hts⟩ (k_X8_refuse l D ca h ad pa tb σ (-3 : Int32) H.size hI _ _ (Prod.eta _).symm) (cwV 1 hts gX8_plan_X8_refuse rfl rfl rfl (by decide +kernel) ⟨Nat.le_of_ble_eq_true rfl, Nat.le_of_ble_eq_true rfl⟩) ⟨cw_blind, va_recv hK hP (ci := 8) (q0 := 0) rfl wc_0, cw_give hP hK hD hZ hS hF⟩ rfl rfl hl.1 rfl (lv_room (Nat.le_of_ble_eq_true rfl)) dX8_plan_107 ⟨Nat.le_of_ble_eq_true rfl, Nat.le_of_ble_eq_true rfl⟩) hS (fun q _ h => hF q h) hF (fun r_31 u t H1 locs ht hvm hw hB hz1 hk1 hS => ?_)
                  rw [hw]
                  obtain ⟨hB, hI_32⟩ := hB
                  obtain ⟨hP, hD⟩ := pw_back hF ht hB
                  clear hB hk1 hz1 hF
                  generalize H1 = H at hP hS ⊢
                  obtain ⟨τc_33, hτc_33⟩ : ∃ t9, (s_X8_refuse σ (-3 : Int32)).2 = t9 := ⟨_, rfl⟩
                  rw [hτc_33] at hP hD hI_32
                  (try rw [hτc_33] at hR)
                  obtain ⟨vc_34, hvc_34⟩ : ∃ t9, (s_X8_refuse σ (-3 : Int32)).1 = t9 := ⟨_, rfl⟩
                  rw [hvc_34]
                  (try rw [hvc_34] at hR)
                  have hI9 : IX τc_33 := hI_32
                  obtain ⟨rfl, rfl⟩ := Prod.mk.inj (show (vc_34, τc_33) = (R1, R2) from hR)
                  rw [hQ]
                  exact W.iret (v := vc_34) hx hb hr (fun t ht hW => ⟨⟨vc_34, (), rfl, rfl, ⟨by rw [ht]; exact hP, va_K.moved hW.alike hK, by rw [← hAe]; exact hD⟩, hI9⟩, hS.F ht⟩) hS.2.2 dX8_plan_110
                · have hR := (if_pos c_30).symm.trans hR
                  refine lv_iload_n hx hb dX8_plan_87 rfl (lv_at hl 3 rfl) ?_
                  refine lv_iconst (v := (-1 : Int32)) hx hb dX8_plan_88 (by decide) ?_
                  refine lv_icmp_eq (tgt := 111) hx hb dX8_plan_89 (by decide) (fun _ => ?_) (fun c_35 => absurd c_12 c_35)
                  refine lv_iconst (v := (0 : Int32)) hx hb dX8_plan_111 (by decide) ?_
                  refine lv_istore (lv' := [(6, .int (0 : Int32)), (5, .int (4 : Int32)), (0, .ref h), (1, .int a1), (2, .int a2), (3, .int a3), (4, .int a4)]) hx hb dX8_plan_112 hl (by decide) rfl (fun ls hl => ?_)
                  have hE_36 : ∀ (H : Heap) (locs : List Loc) (ls : Array Slot), s_X8_plan_c114 σ a1 a2 a3 a4 () = (R1, R2) → va_P D vwCl (WC ca h ad pa σ) H → va_D A (WC ca h ad pa σ) → va_S A s.heap H locs → lv_has ls 7 [(0, .ref h), (1, .int a1), (2, .int a2), (3, .int a3), (4, .int a4)] → W p l e ((headSpec wsX8_plan ({ frames := 5, cells := 0, slots := 0, locals := 122 })).room) s m ([.ref h, .int a1, .int a2, .int a3, .int a4] : List Value).toArray below meth c H locs 0 0 QQ (F0 m 152 ls []) := by
                    intro  H locs ls hR hP hD hS hl
                    have hR : (if ((σ 816 0) + (a3 * a4)) ≤ (720 : Int32) then (((s_X6_choose (s_X8_reckonTurns (s_X6_begin σ a1 a2 a3 a4)) ((s_X8_reckonTurns (s_X6_begin σ a1 a2 a3 a4)) 811 0)).1), ((s_X6_choose (s_X8_reckonTurns (s_X6_begin σ a1 a2 a3 a4)) ((s_X8_reckonTurns (s_X6_begin σ a1 a2 a3 a4)) 811 0)).2)) else (((s_X8_refuse σ (-6 : Int32)).1), ((s_X8_refuse σ (-6 : Int32)).2))) = (R1, R2) := hR
                    refine lv_aload_n hx hb dX8_plan_152 rfl (lv_at hl 0 rfl) ?_
                    refine va_get (D := D) (ci := 8) (v := .int (σ 816 0)) (C := RX8) (T := TX8) (N := 19) hx hb hts hu8 hown hK hP 0 wc_0 rfl 16 (by decide) (hts (.fieldLink RX8 91 "GrazeBook" "day" "I") (List.mem_cons_of_mem _ mw_226)) (fun _ h9 => h9) rfl dX8_plan_153 ?_
                    refine lv_iload_n hx hb dX8_plan_156 rfl (lv_at hl 3 rfl) ?_
                    refine lv_iload hx hb dX8_plan_157 (lv_at hl 4 rfl) ?_
                    refine lv_imul hx hb dX8_plan_159 ?_
                    refine lv_iadd hx hb dX8_plan_160 ?_
                    refine lv_sipush (v := (720 : Int32)) hx hb dX8_plan_161 (by decide) ?_
                    refine lv_icmp_le (tgt := 174) hx hb dX8_plan_164 (by decide) (fun c_37 => ?_) (fun c_37 => ?_)
                    · have hR := (if_pos c_37).symm.trans hR
                      refine lv_aload_n hx hb dX8_plan_174 rfl (lv_at hl 0 rfl) ?_
                      refine va_get (D := D) (ci := 8) (v := .ref (ad 809)) (C := RX8) (T := TX8) (N := 19) hx hb hts hu8 hown hK hP 0 wc_0 rfl 9 (by decide) (hts (.fieldLink RX8 68 "GrazeBook" "turns" "LGrazeBook$Turns;") (List.mem_cons_of_mem _ mw_219)) (fun _ h9 => h9) rfl dX8_plan_175 ?_
                      refine lv_iload_n hx hb dX8_plan_178 rfl (lv_at hl 1 rfl) ?_
                      refine lv_iload_n hx hb dX8_plan_179 rfl (lv_at hl 2 rfl) ?_
                      refine lv_iload_n hx hb dX8_plan_180 rfl (lv_at hl 3 rfl) ?_
                      refine lv_iload hx hb dX8_plan_181 (lv_at hl 4 rfl) ?_
                      have hF := pw_free hD hS hA
                      refine va_callv (va_runV (As := [.int a1, .int a2, .int a3, .int a4]) (rest := []) ⟨hx, hb, hml, hown, hts⟩ (k_X6_begin l D ca h ad pa tb σ a1 a2 a3 a4 H.size hI (pl_hw1 c_12 (not_lt0 c_14) (not_lt0 c_19)) _ rfl) (cwV 4 hts gX8_plan_X6_begin rfl rfl rfl (by decide +kernel) ⟨Nat.le_of_ble_eq_true rfl, Nat.le_of_ble_eq_true rfl⟩) ⟨cw_blind, va_recv hK hP (ci := 6) (q0 := 5) rfl wc_5, cw_give hP hK hD hZ hS hF⟩ rfl rfl hl.1 rfl (lv_room (Nat.le_of_ble_eq_true rfl)) dX8_plan_183 ⟨Nat.le_of_ble_eq_true rfl, Nat.le_of_ble_eq_true rfl⟩) hS (fun q _ h => hF q h) hF (fun u t H1 locs ht hvm hw hB hz1 hk1 hS => ?_)
                      obtain ⟨hB, hI_39⟩ := hB
                      obtain ⟨hP, hD⟩ := pw_back hF ht hB
                      clear hB hk1 hz1 hF
                      generalize H1 = H at hP hS ⊢
                      obtain ⟨τc_40, hτc_40⟩ : ∃ t9, (s_X6_begin σ a1 a2 a3 a4) = t9 := ⟨_, rfl⟩
                      rw [hτc_40] at hP hD hI_39
                      (try rw [hτc_40] at hR)
                      refine lv_aload_n hx hb dX8_plan_186 rfl (lv_at hl 0 rfl) ?_
                      have hF := pw_free hD hS hA
                      refine va_callv (va_runV (As := []) (rest := []) ⟨hx, hb, hml, hown, hts⟩ (k_X8_reckonTurns l D ca h ad pa tb τc_40 H.size hI_39 _ rfl) (cwV 0 hts gX8_plan_X8_reckonTurns rfl rfl rfl (by decide +kernel) ⟨Nat.le_of_ble_eq_true rfl, Nat.le_of_ble_eq_true rfl⟩) ⟨cw_blind, va_recv hK hP (ci := 8) (q0 := 0) rfl wc_0, cw_give hP hK hD hZ hS hF⟩ rfl rfl hl.1 rfl (lv_room (Nat.le_of_ble_eq_true rfl)) dX8_plan_187 ⟨Nat.le_of_ble_eq_true rfl, Nat.le_of_ble_eq_true rfl⟩) hS (fun q _ h => hF q h) hF (fun u t H1 locs ht hvm hw hB hz1 hk1 hS => ?_)
                      obtain ⟨hB, hI_42⟩ := hB
                      obtain ⟨hP, hD⟩ := pw_back hF ht hB
                      clear hB hk1 hz1 hF
                      generalize H1 = H at hP hS ⊢
                      obtain ⟨τc_43, hτc_43⟩ : ∃ t9, (s_X8_reckonTurns τc_40) = t9 := ⟨_, rfl⟩
                      rw [hτc_43] at hP hD hI_42
                      (try rw [hτc_43] at hR)
                      refine lv_aload_n hx hb dX8_plan_190 rfl (lv_at hl 0 rfl) ?_
                      refine va_get (D := D) (ci := 8) (v := .ref (ad 809)) (C := RX8) (T := TX8) (N := 19) hx hb hts hu8 hown hK hP 0 wc_0 rfl 9 (by decide) (hts (.fieldLink RX8 68 "GrazeBook" "turns" "LGrazeBook$Turns;") (List.mem_cons_of_mem _ mw_219)) (fun _ h9 => h9) rfl dX8_plan_191 ?_
                      refine lv_aload_n hx hb dX8_plan_194 rfl (lv_at hl 0 rfl) ?_
                      refine va_get (D := D) (ci := 8) (v := .int (τc_43 811 0)) (C := RX8) (T := TX8) (N := 19) hx hb hts hu8 hown hK hP 0 wc_0 rfl 11 (by decide) (hts (.fieldLink RX8 75 "GrazeBook" "pieceCount" "I") (List.mem_cons_of_mem _ mw_221)) (fun _ h9 => h9) rfl dX8_plan_195 ?_
                      have hF := pw_free hD hS hA
                      refine va_calli (va_runV (As := [.int (τc_43 811 0)]) (rest := []) ⟨hx, hb, hml, hown, hts⟩ (k_X6_choose l D ca h ad pa tb τc_43 (τc_43 811 0) H.size hI_42 ((ix_811 hI_42).2) _ _ (Prod.eta _).symm) (cwV 1 hts gX8_plan_X6_choose rfl rfl rfl (by decide +kernel) ⟨Nat.le_of_ble_eq_true rfl, Nat.le_of_ble_eq_true rfl⟩) ⟨cw_blind, va_recv hK hP (ci := 6) (q0 := 5) rfl wc_5, cw_give hP hK hD hZ hS hF⟩ rfl rfl hl.1 rfl (lv_room (Nat.le_of_ble_eq_true rfl)) dX8_plan_198 ⟨Nat.le_of_ble_eq_true rfl, Nat.le_of_ble_eq_true rfl⟩) hS (fun q _ h => hF q h) hF (fun r_44 u t H1 locs ht hvm hw hB hz1 hk1 hS => ?_)
                      rw [hw]
                      obtain ⟨hB, hI_45⟩ := hB
                      obtain ⟨hP, hD⟩ := pw_back hF ht hB
                      clear hB hk1 hz1 hF
                      generalize H1 = H at hP hS ⊢
                      obtain ⟨τc_46, hτc_46⟩ : ∃ t9, (s_X6_choose τc_43 (τc_43 811 0)).2 = t9 := ⟨_, rfl⟩
                      rw [hτc_46] at hP hD hI_45
                      (try rw [hτc_46] at hR)
                      obtain ⟨vc_47, hvc_47⟩ : ∃ t9, (s_X6_choose τc_43 (τc_43 811 0)).1 = t9 := ⟨_, rfl⟩
                      rw [hvc_47]
                      (try rw [hvc_47] at hR)
                      have hI9 : IX τc_46 := hI_45
                      obtain ⟨rfl, rfl⟩ := Prod.mk.inj (show (vc_47, τc_46) = (R1, R2) from hR)
                      rw [hQ]
                      exact W.iret (v := vc_47) hx hb hr (fun t ht hW => ⟨⟨vc_47, (), rfl, rfl, ⟨by rw [ht]; exact hP, va_K.moved hW.alike hK, by rw [← hAe]; exact hD⟩, hI9⟩, hS.F ht⟩) hS.2.2 dX8_plan_201
                    · have hR := (if_neg c_37).symm.trans hR
                      refine lv_aload_n hx hb dX8_plan_167 rfl (lv_at hl 0 rfl) ?_
                      refine lv_bipush (v := (-6 : Int32)) hx hb dX8_plan_168 (by decide) ?_
                      have hF := pw_free hD hS hA
                      refine va_calli (va_runV (As := [.int (-6 : Int32)]) (rest := []) ⟨hx, hb, hml, hown, hts⟩ (k_X8_refuse l D ca h ad pa tb σ (-6 : Int32) H.size hI _ _ (Prod.eta _).symm) (cwV 1 hts gX8_plan_X8_refuse rfl rfl rfl (by decide +kernel) ⟨Nat.le_of_ble_eq_true rfl, Nat.le_of_ble_eq_true rfl⟩) ⟨cw_blind, va_recv hK hP (ci := 8) (q0 := 0) rfl wc_0, cw_give hP hK hD hZ hS hF⟩ rfl rfl hl.1 rfl (lv_room (Nat.le_of_ble_eq_true rfl)) dX8_plan_170 ⟨Nat.le_of_ble_eq_true rfl, Nat.le_of_ble_eq_true rfl⟩) hS (fun q _ h => hF q h) hF (fun r_48 u t H1 locs ht hvm hw hB hz1 hk1 hS => ?_)
                      rw [hw]
                      obtain ⟨hB, hI_49⟩ := hB
                      obtain ⟨hP, hD⟩ := pw_back hF ht hB
                      clear hB hk1 hz1 hF
                      generalize H1 = H at hP hS ⊢
                      obtain ⟨τc_50, hτc_50⟩ : ∃ t9, (s_X8_refuse σ (-6 : Int32)).2 = t9 := ⟨_, rfl⟩
                      rw [hτc_50] at hP hD hI_49
                      (try rw [hτc_50] at hR)
                      obtain ⟨vc_51, hvc_51⟩ : ∃ t9, (s_X8_refuse σ (-6 : Int32)).1 = t9 := ⟨_, rfl⟩
                      rw [hvc_51]
                      (try rw [hvc_51] at hR)
                      have hI9 : IX τc_50 := hI_49
                      obtain ⟨rfl, rfl⟩ := Prod.mk.inj (show (vc_51, τc_50) = (R1, R2) from hR)
                      rw [hQ]
                      exact W.iret (v := vc_51) hx hb hr (fun t ht hW => ⟨⟨vc_51, (), rfl, rfl, ⟨by rw [ht]; exact hP, va_K.moved hW.alike hK, by rw [← hAe]; exact hD⟩, hI9⟩, hS.F ht⟩) hS.2.2 dX8_plan_173
                  have hL_36 : ∀ (n k_36 : Nat) (hk_36 : lpk a3 k_36 n) (H : Heap) (locs : List Loc) (ls : Array Slot), s_X8_plan_c114r σ a1 a2 a3 a4 (iterR (s_X8_plan_l114 σ a4) n k_36 ()) = (R1, R2) → va_P D vwCl (WC ca h ad pa σ) H → va_D A (WC ca h ad pa σ) → va_S A s.heap H locs → lv_has ls 7 [(6, .int (nI k_36)), (0, .ref h), (1, .int a1), (2, .int a2), (3, .int a3), (4, .int a4)] → W p l e ((headSpec wsX8_plan ({ frames := 5, cells := 0, slots := 0, locals := 122 })).room) s m ([.ref h, .int a1, .int a2, .int a3, .int a4] : List Value).toArray below meth c H locs 0 0 QQ (F0 m 114 ls []) := by
                    intro n
                    induction n with
                    | zero =>
                      intro k_36 hk_36 H locs ls hR hP hD hS hl
                      refine lv_iload hx hb dX8_plan_114 (lv_at hl 0 rfl) ?_
                      refine lv_iload_n hx hb dX8_plan_116 rfl (lv_at hl 4 rfl) ?_
                      refine lv_icmp_ge (tgt := 152) hx hb dX8_plan_117 (by decide) (fun _ => ?_) (fun c_52 => absurd (ge_end hk_36) c_52)
                      exact hE_36  _ _ _ hR hP hD hS (lv_sub hl [1, 2, 3, 4, 5] rfl)
                    | succ n ih =>
                      intro k_36 hk_36 H locs ls hR hP hD hS hl
                      obtain ⟨S_36, hB_36⟩ : ∃ s9, s_X8_plan_l114 σ a4 k_36 () = s9 := ⟨_, rfl⟩
                      have hR : s_X8_plan_c114r σ a1 a2 a3 a4 (iterR1 (s_X8_plan_l114 σ a4) n k_36 S_36) = (R1, R2) := by rw [← hB_36]; exact hR
                      have hB_36 : (if (s_X8_openPieces σ (((σ 816 0) + (1 : Int32)) + ((nI k_36) * a4))) = (0 : Int32) then (Sum.inl (((s_X8_refuse σ (-3 : Int32)).1), ((s_X8_refuse σ (-3 : Int32)).2))) else (Sum.inr ())) = S_36 := hB_36
                      refine lv_iload hx hb dX8_plan_114 (lv_at hl 0 rfl) ?_
                      refine lv_iload_n hx hb dX8_plan_116 rfl (lv_at hl 4 rfl) ?_
                      refine lv_icmp_ge (tgt := 152) hx hb dX8_plan_117 (by decide) (fun c_53 => absurd c_53 (ge_go hk_36)) (fun _ => ?_)
                      refine lv_aload_n hx hb dX8_plan_120 rfl (lv_at hl 1 rfl) ?_
                      refine lv_aload_n hx hb dX8_plan_121 rfl (lv_at hl 1 rfl) ?_
                      refine va_get (D := D) (ci := 8) (v := .int (σ 816 0)) (C := RX8) (T := TX8) (N := 19) hx hb hts hu8 hown hK hP 0 wc_0 rfl 16 (by decide) (hts (.fieldLink RX8 91 "GrazeBook" "day" "I") (List.mem_cons_of_mem _ mw_226)) (fun _ h9 => h9) rfl dX8_plan_122 ?_
                      refine lv_iconst (v := (1 : Int32)) hx hb dX8_plan_125 (by decide) ?_
                      refine lv_iadd hx hb dX8_plan_126 ?_
                      refine lv_iload hx hb dX8_plan_127 (lv_at hl 0 rfl) ?_
                      refine lv_iload hx hb dX8_plan_129 (lv_at hl 5 rfl) ?_
                      refine lv_imul hx hb dX8_plan_131 ?_
                      refine lv_iadd hx hb dX8_plan_132 ?_
                      have hF := pw_free hD hS hA
                      refine va_calli (va_runV (As := [.int (((σ 816 0) + (1 : Int32)) + ((nI k_36) * a4))]) (rest := []) ⟨hx, hb, hml, hown, hts⟩ (k_X8_openPieces l D ca h ad pa tb σ (((σ 816 0) + (1 : Int32)) + ((nI k_36) * a4)) H.size hI _ rfl) (cwV 1 hts gX8_plan_X8_openPieces rfl rfl rfl (by decide +kernel) ⟨Nat.le_of_ble_eq_true rfl, Nat.le_of_ble_eq_true rfl⟩) ⟨cw_blind, va_recv hK hP (ci := 8) (q0 := 0) rfl wc_0, cw_give hP hK hD hZ hS hF⟩ rfl rfl hl.1 rfl (lv_room (Nat.le_of_ble_eq_true rfl)) dX8_plan_133 ⟨Nat.le_of_ble_eq_true rfl, Nat.le_of_ble_eq_true rfl⟩) hS (fun q _ h => hF q h) hF (fun r_54 u t H1 locs ht hvm hw hB hz1 hk1 hS => ?_)
                      rw [hw]
                      obtain ⟨hP, hD⟩ := pw_back hF ht hB
                      clear hB hk1 hz1 hF
                      generalize H1 = H at hP hS ⊢
                      refine lv_if_ne (tgt := 146) hx hb dX8_plan_136 (by decide) (fun c_55 => ?_) (fun c_55 => ?_)
                      · have hB_36 := (if_neg c_55).symm.trans hB_36
                        refine lv_iinc (v := (nI (k_36 + 1))) (lv' := [(6, .int (nI (k_36 + 1))), (0, .ref h), (1, .int a1), (2, .int a2), (3, .int a3), (4, .int a4)]) hx hb dX8_plan_146 hl (k := 0) rfl (by rw [show Int32.ofInt 1 = 1 from by decide]; exact nI_1 _) (by decide) rfl (fun ls hl => ?_)
                        refine lv_goto (tgt := 114) hx hb dX8_plan_149 (by decide) ?_
                        subst hB_36
                        exact ih (k_36 + 1)  (ge_next hk_36)  _ _ _ hR hP hD hS (lv_sub hl [0, 1, 2, 3, 4, 5] rfl)
                      · have hB_36 := (if_pos c_55).symm.trans hB_36
                        refine lv_aload_n hx hb dX8_plan_139 rfl (lv_at hl 1 rfl) ?_
                        refine lv_bipush (v := (-3 : Int32)) hx hb dX8_plan_140 (by decide) ?_
                        have hF := pw_free hD hS hA
                        refine va_calli (va_runV (As := [.int (-3 : Int32)]) (rest := []) ⟨hx, hb, hml, hown, hts⟩ (k_X8_refuse l D ca h ad pa tb σ (-3 : Int32) H.size hI _ _ (Prod.eta _).symm) (cwV 1 hts gX8_plan_X8_refuse rfl rfl rfl (by decide +kernel) ⟨Nat.le_of_ble_eq_true rfl, Nat.le_of_ble_eq_true rfl⟩) ⟨cw_blind, va_recv hK hP (ci := 8) (q0 := 0) rfl wc_0, cw_give hP hK hD hZ hS hF⟩ rfl rfl hl.1 rfl (lv_room (Nat.le_of_ble_eq_true rfl)) dX8_plan_142 ⟨Nat.le_of_ble_eq_true rfl, Nat.le_of_ble_eq_true rfl⟩) hS (fun q _ h => hF q h) hF (fun r_56 u t H1 locs ht hvm hw hB hz1 hk1 hS => ?_)
                        rw [hw]
                        obtain ⟨hB, hI_57⟩ := hB
                        obtain ⟨hP, hD⟩ := pw_back hF ht hB
                        clear hB hk1 hz1 hF
                        generalize H1 = H at hP hS ⊢
                        obtain ⟨τc_58, hτc_58⟩ : ∃ t9, (s_X8_refuse σ (-3 : Int32)).2 = t9 := ⟨_, rfl⟩
                        rw [hτc_58] at hP hD hI_57
                        (try rw [hτc_58] at hB_36)
                        obtain ⟨vc_59, hvc_59⟩ : ∃ t9, (s_X8_refuse σ (-3 : Int32)).1 = t9 := ⟨_, rfl⟩
                        rw [hvc_59]
                        (try rw [hvc_59] at hB_36)
                        subst hB_36
                        have hI9 : IX τc_58 := hI_57
                        obtain ⟨rfl, rfl⟩ := Prod.mk.inj (show (vc_59, τc_58) = (R1, R2) from hR)
                        rw [hQ]
                        exact W.iret (v := vc_59) hx hb hr (fun t ht hW => ⟨⟨vc_59, (), rfl, rfl, ⟨by rw [ht]; exact hP, va_K.moved hW.alike hK, by rw [← hAe]; exact hD⟩, hI9⟩, hS.F ht⟩) hS.2.2 dX8_plan_145
                  exact hL_36 _ 0  ⟨rfl, by decide⟩  _ _ _ hR hP hD hS (lv_sub hl [0, 2, 3, 4, 5, 6] rfl)
              · have hR := (if_neg c_29).symm.trans hR
                refine lv_aload_n hx hb dX8_plan_68 rfl (lv_at hl 1 rfl) ?_
                refine lv_bipush (v := (-2 : Int32)) hx hb dX8_plan_69 (by decide) ?_
                have hF := pw_free hD hS hA
                refine va_calli (va_runV (As := [.int (-2 : Int32)]) (rest := []) ⟨hx, hb, hml, hown, hts⟩ (k_X8_refuse l D ca h ad pa tb σ (-2 : Int32) H.size hI _ _ (Prod.eta _).symm) (cwV 1 hts gX8_plan_X8_refuse rfl rfl rfl (by decide +kernel) ⟨Nat.le_of_ble_eq_true rfl, Nat.le_of_ble_eq_true rfl⟩) ⟨cw_blind, va_recv hK hP (ci := 8) (q0 := 0) rfl wc_0, cw_give hP hK hD hZ hS hF⟩ rfl rfl hl.1 rfl (lv_room (Nat.le_of_ble_eq_true rfl)) dX8_plan_71 ⟨Nat.le_of_ble_eq_true rfl, Nat.le_of_ble_eq_true rfl⟩) hS (fun q _ h => hF q h) hF (fun r_60 u t H1 locs ht hvm hw hB hz1 hk1 hS => ?_)
                rw [hw]
                obtain ⟨hB, hI_61⟩ := hB
                obtain ⟨hP, hD⟩ := pw_back hF ht hB
                clear hB hk1 hz1 hF
                generalize H1 = H at hP hS ⊢
                obtain ⟨τc_62, hτc_62⟩ : ∃ t9, (s_X8_refuse σ (-2 : Int32)).2 = t9 := ⟨_, rfl⟩
                rw [hτc_62] at hP hD hI_61
                (try rw [hτc_62] at hR)
                obtain ⟨vc_63, hvc_63⟩ : ∃ t9, (s_X8_refuse σ (-2 : Int32)).1 = t9 := ⟨_, rfl⟩
                rw [hvc_63]
                (try rw [hvc_63] at hR)
                have hI9 : IX τc_62 := hI_61
                obtain ⟨rfl, rfl⟩ := Prod.mk.inj (show (vc_63, τc_62) = (R1, R2) from hR)
                rw [hQ]
                exact W.iret (v := vc_63) hx hb hr (fun t ht hW => ⟨⟨vc_63, (), rfl, rfl, ⟨by rw [ht]; exact hP, va_K.moved hW.alike hK, by rw [← hAe]; exact hD⟩, hI9⟩, hS.F ht⟩) hS.2.2 dX8_plan_74
      · have hR := (if_neg c_12).symm.trans hR
        refine lv_aload_n hx hb dX8_plan_18 rfl (lv_at hl 0 rfl) ?_
        refine lv_iload_n hx hb dX8_plan_19 rfl (lv_at hl 2 rfl) ?_
        have hF := pw_free hD hS hA
        refine va_calli (va_runV (As := [.int a2]) (rest := []) ⟨hx, hb, hml, hown, hts⟩ (k_X8_isHerd l D ca h ad pa tb σ a2 H.size hI _ rfl) (cwV 1 hts gX8_plan_X8_isHerd rfl rfl rfl (by decide +kernel) ⟨Nat.le_of_ble_eq_true rfl, Nat.le_of_ble_eq_true rfl⟩) ⟨cw_blind, va_recv hK hP (ci := 8) (q0 := 0) rfl wc_0, cw_give hP hK hD hZ hS hF⟩ rfl rfl hl.1 rfl (lv_room (Nat.le_of_ble_eq_true rfl)) dX8_plan_20 ⟨Nat.le_of_ble_eq_true rfl, Nat.le_of_ble_eq_true rfl⟩) hS (fun q _ h => hF q h) hF (fun r_64 u t H1 locs ht hvm hw hB hz1 hk1 hS => ?_)
        rw [hw]
        obtain ⟨hP, hD⟩ := pw_back hF ht hB
        clear hB hk1 hz1 hF
        generalize H1 = H at hP hS ⊢
        refine lv_if_ne (tgt := 32) hx hb dX8_plan_23 (by decide) (fun c_65 => ?_) (fun c_65 => ?_)
        · have hR := (if_neg c_65).symm.trans hR
          refine lv_iload_n hx hb dX8_plan_32 rfl (lv_at hl 2 rfl) ?_
          refine lv_iconst (v := (-1 : Int32)) hx hb dX8_plan_33 (by decide) ?_
          refine lv_icmp_ne (tgt := 41) hx hb dX8_plan_34 (by decide) (fun _ => ?_) (fun c_66 => absurd c_66 c_12)
          refine lv_iconst (v := (2 : Int32)) hx hb dX8_plan_41 (by decide) ?_
          refine lv_istore (lv' := [(5, .int (2 : Int32)), (0, .ref h), (1, .int a1), (2, .int a2), (3, .int a3), (4, .int a4)]) hx hb dX8_plan_42 hl (by decide) rfl (fun ls hl => ?_)
          refine lv_iload_n hx hb dX8_plan_44 rfl (lv_at hl 4 rfl) ?_
          refine lv_iconst (v := (1 : Int32)) hx hb dX8_plan_45 (by decide) ?_
          refine lv_icmp_lt (tgt := 68) hx hb dX8_plan_46 (by decide) (fun c_67 => ?_) (fun c_67 => ?_)
          · have hR := (if_pos c_67).symm.trans hR
            refine lv_aload_n hx hb dX8_plan_68 rfl (lv_at hl 1 rfl) ?_
            refine lv_bipush (v := (-2 : Int32)) hx hb dX8_plan_69 (by decide) ?_
            have hF := pw_free hD hS hA
            refine va_calli (va_runV (As := [.int (-2 : Int32)]) (rest := []) ⟨hx, hb, hml, hown, hts⟩ (k_X8_refuse l D ca h ad pa tb σ (-2 : Int32) H.size hI _ _ (Prod.eta _).symm) (cwV 1 hts gX8_plan_X8_refuse rfl rfl rfl (by decide +kernel) ⟨Nat.le_of_ble_eq_true rfl, Nat.le_of_ble_eq_true rfl⟩) ⟨cw_blind, va_recv hK hP (ci := 8) (q0 := 0) rfl wc_0, cw_give hP hK hD hZ hS hF⟩ rfl rfl hl.1 rfl (lv_room (Nat.le_of_ble_eq_true rfl)) dX8_plan_71 ⟨Nat.le_of_ble_eq_true rfl, Nat.le_of_ble_eq_true rfl⟩) hS (fun q _ h => hF q h) hF (fun r_68 u t H1 locs ht hvm hw hB hz1 hk1 hS => ?_)
            rw [hw]
            obtain ⟨hB, hI_69⟩ := hB
            obtain ⟨hP, hD⟩ := pw_back hF ht hB
            clear hB hk1 hz1 hF
            generalize H1 = H at hP hS ⊢
            obtain ⟨τc_70, hτc_70⟩ : ∃ t9, (s_X8_refuse σ (-2 : Int32)).2 = t9 := ⟨_, rfl⟩
            rw [hτc_70] at hP hD hI_69
            (try rw [hτc_70] at hR)
            obtain ⟨vc_71, hvc_71⟩ : ∃ t9, (s_X8_refuse σ (-2 : Int32)).1 = t9 := ⟨_, rfl⟩
            rw [hvc_71]
            (try rw [hvc_71] at hR)
            have hI9 : IX τc_70 := hI_69
            obtain ⟨rfl, rfl⟩ := Prod.mk.inj (show (vc_71, τc_70) = (R1, R2) from hR)
            rw [hQ]
            exact W.iret (v := vc_71) hx hb hr (fun t ht hW => ⟨⟨vc_71, (), rfl, rfl, ⟨by rw [ht]; exact hP, va_K.moved hW.alike hK, by rw [← hAe]; exact hD⟩, hI9⟩, hS.F ht⟩) hS.2.2 dX8_plan_74
          · have hR := (if_neg c_67).symm.trans hR
            refine lv_iload_n hx hb dX8_plan_49 rfl (lv_at hl 4 rfl) ?_
            refine lv_iload hx hb dX8_plan_50 (lv_at hl 0 rfl) ?_
            refine lv_icmp_gt (tgt := 68) hx hb dX8_plan_52 (by decide) (fun c_72 => ?_) (fun c_72 => ?_)
            · have hR := (if_pos c_72).symm.trans hR
              refine lv_aload_n hx hb dX8_plan_68 rfl (lv_at hl 1 rfl) ?_
              refine lv_bipush (v := (-2 : Int32)) hx hb dX8_plan_69 (by decide) ?_
              have hF := pw_free hD hS hA
              refine va_calli (va_runV (As := [.int (-2 : Int32)]) (rest := []) ⟨hx, hb, hml, hown, hts⟩ (k_X8_refuse l D ca h ad pa tb σ (-2 : Int32) H.size hI _ _ (Prod.eta _).symm) (cwV 1 hts gX8_plan_X8_refuse rfl rfl rfl (by decide +kernel) ⟨Nat.le_of_ble_eq_true rfl, Nat.le_of_ble_eq_true rfl⟩) ⟨cw_blind, va_recv hK hP (ci := 8) (q0 := 0) rfl wc_0, cw_give hP hK hD hZ hS hF⟩ rfl rfl hl.1 rfl (lv_room (Nat.le_of_ble_eq_true rfl)) dX8_plan_71 ⟨Nat.le_of_ble_eq_true rfl, Nat.le_of_ble_eq_true rfl⟩) hS (fun q _ h => hF q h) hF (fun r_73 u t H1 locs ht hvm hw hB hz1 hk1 hS => ?_)
              rw [hw]
              obtain ⟨hB, hI_74⟩ := hB
              obtain ⟨hP, hD⟩ := pw_back hF ht hB
              clear hB hk1 hz1 hF
              generalize H1 = H at hP hS ⊢
              obtain ⟨τc_75, hτc_75⟩ : ∃ t9, (s_X8_refuse σ (-2 : Int32)).2 = t9 := ⟨_, rfl⟩
              rw [hτc_75] at hP hD hI_74
              (try rw [hτc_75] at hR)
              obtain ⟨vc_76, hvc_76⟩ : ∃ t9, (s_X8_refuse σ (-2 : Int32)).1 = t9 := ⟨_, rfl⟩
              rw [hvc_76]
              (try rw [hvc_76] at hR)
              have hI9 : IX τc_75 := hI_74
              obtain ⟨rfl, rfl⟩ := Prod.mk.inj (show (vc_76, τc_75) = (R1, R2) from hR)
              rw [hQ]
              exact W.iret (v := vc_76) hx hb hr (fun t ht hW => ⟨⟨vc_76, (), rfl, rfl, ⟨by rw [ht]; exact hP, va_K.moved hW.alike hK, by rw [← hAe]; exact hD⟩, hI9⟩, hS.F ht⟩) hS.2.2 dX8_plan_74
            · have hR := (if_neg c_72).symm.trans hR
              refine lv_iload hx hb dX8_plan_55 (lv_at hl 5 rfl) ?_
              refine lv_iconst (v := (1 : Int32)) hx hb dX8_plan_57 (by decide) ?_
              refine lv_icmp_lt (tgt := 68) hx hb dX8_plan_58 (by decide) (fun c_77 => ?_) (fun c_77 => ?_)
              · have hR := (if_pos c_77).symm.trans hR
                refine lv_aload_n hx hb dX8_plan_68 rfl (lv_at hl 1 rfl) ?_
                refine lv_bipush (v := (-2 : Int32)) hx hb dX8_plan_69 (by decide) ?_
                have hF := pw_free hD hS hA
                refine va_calli (va_runV (As := [.int (-2 : Int32)]) (rest := []) ⟨hx, hb, hml, hown, hts⟩ (k_X8_refuse l D ca h ad pa tb σ (-2 : Int32) H.size hI _ _ (Prod.eta _).symm) (cwV 1 hts gX8_plan_X8_refuse rfl rfl rfl (by decide +kernel) ⟨Nat.le_of_ble_eq_true rfl, Nat.le_of_ble_eq_true rfl⟩) ⟨cw_blind, va_recv hK hP (ci := 8) (q0 := 0) rfl wc_0, cw_give hP hK hD hZ hS hF⟩ rfl rfl hl.1 rfl (lv_room (Nat.le_of_ble_eq_true rfl)) dX8_plan_71 ⟨Nat.le_of_ble_eq_true rfl, Nat.le_of_ble_eq_true rfl⟩) hS (fun q _ h => hF q h) hF (fun r_78 u t H1 locs ht hvm hw hB hz1 hk1 hS => ?_)
                rw [hw]
                obtain ⟨hB, hI_79⟩ := hB
                obtain ⟨hP, hD⟩ := pw_back hF ht hB
                clear hB hk1 hz1 hF
                generalize H1 = H at hP hS ⊢
                obtain ⟨τc_80, hτc_80⟩ : ∃ t9, (s_X8_refuse σ (-2 : Int32)).2 = t9 := ⟨_, rfl⟩
                rw [hτc_80] at hP hD hI_79
                (try rw [hτc_80] at hR)
                obtain ⟨vc_81, hvc_81⟩ : ∃ t9, (s_X8_refuse σ (-2 : Int32)).1 = t9 := ⟨_, rfl⟩
                rw [hvc_81]
                (try rw [hvc_81] at hR)
                have hI9 : IX τc_80 := hI_79
                obtain ⟨rfl, rfl⟩ := Prod.mk.inj (show (vc_81, τc_80) = (R1, R2) from hR)
                rw [hQ]
                exact W.iret (v := vc_81) hx hb hr (fun t ht hW => ⟨⟨vc_81, (), rfl, rfl, ⟨by rw [ht]; exact hP, va_K.moved hW.alike hK, by rw [← hAe]; exact hD⟩, hI9⟩, hS.F ht⟩) hS.2.2 dX8_plan_74
              · have hR := (if_neg c_77).symm.trans hR
                refine lv_iload hx hb dX8_plan_61 (lv_at hl 5 rfl) ?_
                refine lv_bipush (v := (10 : Int32)) hx hb dX8_plan_63 (by decide) ?_
                refine lv_icmp_le (tgt := 75) hx hb dX8_plan_65 (by decide) (fun c_82 => ?_) (fun c_82 => ?_)
                · have hR := (if_pos c_82).symm.trans hR
                  refine lv_aload_n hx hb dX8_plan_75 rfl (lv_at hl 1 rfl) ?_
                  refine va_get (D := D) (ci := 8) (v := .ref (ad 805)) (C := RX8) (T := TX8) (N := 19) hx hb hts hu8 hown hK hP 0 wc_0 rfl 5 (by decide) (hts (.fieldLink RX8 40 "GrazeBook" "herds" "[LGrazeBook$Drove;") (List.mem_cons_of_mem _ mw_215)) (fun _ h9 => h9) rfl dX8_plan_76 ?_
                  refine lv_iload_n hx hb dX8_plan_79 rfl (lv_at hl 2 rfl) ?_
                  refine va_aldq_k (k := (a1.toNatClampNeg)) (b := pa 3 (a1.toNatClampNeg)) hx hb hK hP 9 5 wc_9 rfl rfl (rf_at (isb_Herd c_2)) (isx_Herd c_2 hI) dX8_plan_80 ?_
                  refine va_get (D := D) (ci := 2) (v := .int (σ 206 (a1.toNatClampNeg))) (C := RX2) (T := TX2) (N := 8) hx hb hts hu2 hown hK hP (pcD ca h ad pa σ (a1.toNatClampNeg)) (wc_aD (isb_Herd c_2)) rfl 6 (by decide) (hts (.fieldLink RX8 160 "GrazeBook$Drove" "state" "I") (List.mem_cons_of_mem _ mw_457)) (fun _ h9 => h9) rfl dX8_plan_81 ?_
                  refine lv_if_ne (tgt := 104) hx hb dX8_plan_84 (by decide) (fun c_83 => ?_) (fun c_83 => ?_)
                  · have hR := (if_neg c_83).symm.trans hR
                    refine lv_aload_n hx hb dX8_plan_104 rfl (lv_at hl 1 rfl) ?_
                    refine lv_bipush (v := (-3 : Int32)) hx hb dX8_plan_105 (by decide) ?_
                    have hF := pw_free hD hS hA
                    refine va_calli (va_runV (As := [.int (-3 : Int32)]) (rest := []) ⟨hx, hb, hml, hown, hts⟩ (k_X8_refuse l D ca h ad pa tb σ (-3 : Int32) H.size hI _ _ (Prod.eta _).symm) (cwV 1 hts gX8_plan_X8_refuse rfl rfl rfl (by decide +kernel) ⟨Nat.le_of_ble_eq_true rfl, Nat.le_of_ble_eq_true rfl⟩) ⟨cw_blind, va_recv hK hP (ci := 8) (q0 := 0) rfl wc_0, cw_give hP hK hD hZ hS hF⟩ rfl rfl hl.1 rfl (lv_room (Nat.le_of_ble_eq_true rfl)) dX8_plan_107 ⟨Nat.le_of_ble_eq_true rfl, Nat.le_of_ble_eq_true rfl⟩) hS (fun q _ h => hF q h) hF (fun r_84 u t H1 locs ht hvm hw hB hz1 hk1 hS => ?_)
                    rw [hw]
                    obtain ⟨hB, hI_85⟩ := hB
                    obtain ⟨hP, hD⟩ := pw_back hF ht hB
                    clear hB hk1 hz1 hF
                    generalize H1 = H at hP hS ⊢
                    obtain ⟨τc_86, hτc_86⟩ : ∃ t9, (s_X8_refuse σ (-3 : Int32)).2 = t9 := ⟨_, rfl⟩
                    rw [hτc_86] at hP hD hI_85
                    (try rw [hτc_86] at hR)
                    obtain ⟨vc_87, hvc_87⟩ : ∃ t9, (s_X8_refuse σ (-3 : Int32)).1 = t9 := ⟨_, rfl⟩
                    rw [hvc_87]
                    (try rw [hvc_87] at hR)
                    have hI9 : IX τc_86 := hI_85
                    obtain ⟨rfl, rfl⟩ := Prod.mk.inj (show (vc_87, τc_86) = (R1, R2) from hR)
                    rw [hQ]
                    exact W.iret (v := vc_87) hx hb hr (fun t ht hW => ⟨⟨vc_87, (), rfl, rfl, ⟨by rw [ht]; exact hP, va_K.moved hW.alike hK, by rw [← hAe]; exact hD⟩, hI9⟩, hS.F ht⟩) hS.2.2 dX8_plan_110
                  · have hR := (if_pos c_83).symm.trans hR
                    refine lv_iload_n hx hb dX8_plan_87 rfl (lv_at hl 3 rfl) ?_
                    refine lv_iconst (v := (-1 : Int32)) hx hb dX8_plan_88 (by decide) ?_
                    refine lv_icmp_eq (tgt := 111) hx hb dX8_plan_89 (by decide) (fun c_88 => absurd c_88 c_12) (fun _ => ?_)
                    refine lv_aload_n hx hb dX8_plan_92 rfl (lv_at hl 1 rfl) ?_
                    refine va_get (D := D) (ci := 8) (v := .ref (ad 805)) (C := RX8) (T := TX8) (N := 19) hx hb hts hu8 hown hK hP 0 wc_0 rfl 5 (by decide) (hts (.fieldLink RX8 40 "GrazeBook" "herds" "[LGrazeBook$Drove;") (List.mem_cons_of_mem _ mw_215)) (fun _ h9 => h9) rfl dX8_plan_93 ?_
                    refine lv_iload_n hx hb dX8_plan_96 rfl (lv_at hl 3 rfl) ?_
                    refine va_aldq_k (k := (a2.toNatClampNeg)) (b := pa 3 (a2.toNatClampNeg)) hx hb hK hP 9 5 wc_9 rfl rfl (rf_at (isb_Herd c_65)) (isx_Herd c_65 hI) dX8_plan_97 ?_
                    refine va_get (D := D) (ci := 2) (v := .int (σ 206 (a2.toNatClampNeg))) (C := RX2) (T := TX2) (N := 8) hx hb hts hu2 hown hK hP (pcD ca h ad pa σ (a2.toNatClampNeg)) (wc_aD (isb_Herd c_65)) rfl 6 (by decide) (hts (.fieldLink RX8 160 "GrazeBook$Drove" "state" "I") (List.mem_cons_of_mem _ mw_457)) (fun _ h9 => h9) rfl dX8_plan_98 ?_
                    refine lv_if_eq (tgt := 111) hx hb dX8_plan_101 (by decide) (fun c_89 => ?_) (fun c_89 => ?_)
                    · have hR := (if_pos c_89).symm.trans hR
                      refine lv_iconst (v := (0 : Int32)) hx hb dX8_plan_111 (by decide) ?_
                      refine lv_istore (lv' := [(6, .int (0 : Int32)), (5, .int (2 : Int32)), (0, .ref h), (1, .int a1), (2, .int a2), (3, .int a3), (4, .int a4)]) hx hb dX8_plan_112 hl (by decide) rfl (fun ls hl => ?_)
                      have hE_90 : ∀ (H : Heap) (locs : List Loc) (ls : Array Slot), s_X8_plan_c114_1 σ a1 a2 a3 a4 () = (R1, R2) → va_P D vwCl (WC ca h ad pa σ) H → va_D A (WC ca h ad pa σ) → va_S A s.heap H locs → lv_has ls 7 [(0, .ref h), (1, .int a1), (2, .int a2), (3, .int a3), (4, .int a4)] → W p l e ((headSpec wsX8_plan ({ frames := 5, cells := 0, slots := 0, locals := 122 })).room) s m ([.ref h, .int a1, .int a2, .int a3, .int a4] : List Value).toArray below meth c H locs 0 0 QQ (F0 m 152 ls []) := by
                        intro  H locs ls hR hP hD hS hl
                        have hR : (if ((σ 816 0) + (a3 * a4)) ≤ (720 : Int32) then (((s_X6_choose (s_X8_reckonTurns (s_X6_begin σ a1 a2 a3 a4)) ((s_X8_reckonTurns (s_X6_begin σ a1 a2 a3 a4)) 811 0)).1), ((s_X6_choose (s_X8_reckonTurns (s_X6_begin σ a1 a2 a3 a4)) ((s_X8_reckonTurns (s_X6_begin σ a1 a2 a3 a4)) 811 0)).2)) else (((s_X8_refuse σ (-6 : Int32)).1), ((s_X8_refuse σ (-6 : Int32)).2))) = (R1, R2) := hR
                        refine lv_aload_n hx hb dX8_plan_152 rfl (lv_at hl 0 rfl) ?_
                        refine va_get (D := D) (ci := 8) (v := .int (σ 816 0)) (C := RX8) (T := TX8) (N := 19) hx hb hts hu8 hown hK hP 0 wc_0 rfl 16 (by decide) (hts (.fieldLink RX8 91 "GrazeBook" "day" "I") (List.mem_cons_of_mem _ mw_226)) (fun _ h9 => h9) rfl dX8_plan_153 ?_
                        refine lv_iload_n hx hb dX8_plan_156 rfl (lv_at hl 3 rfl) ?_
                        refine lv_iload hx hb dX8_plan_157 (lv_at hl 4 rfl) ?_
                        refine lv_imul hx hb dX8_plan_159 ?_
                        refine lv_iadd hx hb dX8_plan_160 ?_
                        refine lv_sipush (v := (720 : Int32)) hx hb dX8_plan_161 (by decide) ?_
                        refine lv_icmp_le (tgt := 174) hx hb dX8_plan_164 (by decide) (fun c_91 => ?_) (fun c_91 => ?_)
                        · have hR := (if_pos c_91).symm.trans hR
                          refine lv_aload_n hx hb dX8_plan_174 rfl (lv_at hl 0 rfl) ?_
                          refine va_get (D := D) (ci := 8) (v := .ref (ad 809)) (C := RX8) (T := TX8) (N := 19) hx hb hts hu8 hown hK hP 0 wc_0 rfl 9 (by decide) (hts (.fieldLink RX8 68 "GrazeBook" "turns" "LGrazeBook$Turns;") (List.mem_cons_of_mem _ mw_219)) (fun _ h9 => h9) rfl dX8_plan_175 ?_
                          refine lv_iload_n hx hb dX8_plan_178 rfl (lv_at hl 1 rfl) ?_
                          refine lv_iload_n hx hb dX8_plan_179 rfl (lv_at hl 2 rfl) ?_
                          refine lv_iload_n hx hb dX8_plan_180 rfl (lv_at hl 3 rfl) ?_
                          refine lv_iload hx hb dX8_plan_181 (lv_at hl 4 rfl) ?_
                          have hF := pw_free hD hS hA
                          refine va_callv (va_runV (As := [.int a1, .int a2, .int a3, .int a4]) (rest := []) ⟨hx, hb, hml, hown, hts⟩ (k_X6_begin l D ca h ad pa tb σ a1 a2 a3 a4 H.size hI (pl_hw2 c_12 (not_lt0 c_67) (not_lt0 c_72)) _ rfl) (cwV 4 hts gX8_plan_X6_begin rfl rfl rfl (by decide +kernel) ⟨Nat.le_of_ble_eq_true rfl, Nat.le_of_ble_eq_true rfl⟩) ⟨cw_blind, va_recv hK hP (ci := 6) (q0 := 5) rfl wc_5, cw_give hP hK hD hZ hS hF⟩ rfl rfl hl.1 rfl (lv_room (Nat.le_of_ble_eq_true rfl)) dX8_plan_183 ⟨Nat.le_of_ble_eq_true rfl, Nat.le_of_ble_eq_true rfl⟩) hS (fun q _ h => hF q h) hF (fun u t H1 locs ht hvm hw hB hz1 hk1 hS => ?_)
                          obtain ⟨hB, hI_93⟩ := hB
                          obtain ⟨hP, hD⟩ := pw_back hF ht hB
                          clear hB hk1 hz1 hF
                          generalize H1 = H at hP hS ⊢
                          obtain ⟨τc_94, hτc_94⟩ : ∃ t9, (s_X6_begin σ a1 a2 a3 a4) = t9 := ⟨_, rfl⟩
                          rw [hτc_94] at hP hD hI_93
                          (try rw [hτc_94] at hR)
                          refine lv_aload_n hx hb dX8_plan_186 rfl (lv_at hl 0 rfl) ?_
                          have hF := pw_free hD hS hA
                          refine va_callv (va_runV (As := []) (rest := []) ⟨hx, hb, hml, hown, hts⟩ (k_X8_reckonTurns l D ca h ad pa tb τc_94 H.size hI_93 _ rfl) (cwV 0 hts gX8_plan_X8_reckonTurns rfl rfl rfl (by decide +kernel) ⟨Nat.le_of_ble_eq_true rfl, Nat.le_of_ble_eq_true rfl⟩) ⟨cw_blind, va_recv hK hP (ci := 8) (q0 := 0) rfl wc_0, cw_give hP hK hD hZ hS hF⟩ rfl rfl hl.1 rfl (lv_room (Nat.le_of_ble_eq_true rfl)) dX8_plan_187 ⟨Nat.le_of_ble_eq_true rfl, Nat.le_of_ble_eq_true rfl⟩) hS (fun q _ h => hF q h) hF (fun u t H1 locs ht hvm hw hB hz1 hk1 hS => ?_)
                          obtain ⟨hB, hI_96⟩ := hB
                          obtain ⟨hP, hD⟩ := pw_back hF ht hB
                          clear hB hk1 hz1 hF
                          generalize H1 = H at hP hS ⊢
                          obtain ⟨τc_97, hτc_97⟩ : ∃ t9, (s_X8_reckonTurns τc_94) = t9 := ⟨_, rfl⟩
                          rw [hτc_97] at hP hD hI_96
                          (try rw [hτc_97] at hR)
                          refine lv_aload_n hx hb dX8_plan_190 rfl (lv_at hl 0 rfl) ?_
                          refine va_get (D := D) (ci := 8) (v := .ref (ad 809)) (C := RX8) (T := TX8) (N := 19) hx hb hts hu8 hown hK hP 0 wc_0 rfl 9 (by decide) (hts (.fieldLink RX8 68 "GrazeBook" "turns" "LGrazeBook$Turns;") (List.mem_cons_of_mem _ mw_219)) (fun _ h9 => h9) rfl dX8_plan_191 ?_
                          refine lv_aload_n hx hb dX8_plan_194 rfl (lv_at hl 0 rfl) ?_
                          refine va_get (D := D) (ci := 8) (v := .int (τc_97 811 0)) (C := RX8) (T := TX8) (N := 19) hx hb hts hu8 hown hK hP 0 wc_0 rfl 11 (by decide) (hts (.fieldLink RX8 75 "GrazeBook" "pieceCount" "I") (List.mem_cons_of_mem _ mw_221)) (fun _ h9 => h9) rfl dX8_plan_195 ?_
                          have hF := pw_free hD hS hA
                          refine va_calli (va_runV (As := [.int (τc_97 811 0)]) (rest := []) ⟨hx, hb, hml, hown, hts⟩ (k_X6_choose l D ca h ad pa tb τc_97 (τc_97 811 0) H.size hI_96 ((ix_811 hI_96).2) _ _ (Prod.eta _).symm) (cwV 1 hts gX8_plan_X6_choose rfl rfl rfl (by decide +kernel) ⟨Nat.le_of_ble_eq_true rfl, Nat.le_of_ble_eq_true rfl⟩) ⟨cw_blind, va_recv hK hP (ci := 6) (q0 := 5) rfl wc_5, cw_give hP hK hD hZ hS hF⟩ rfl rfl hl.1 rfl (lv_room (Nat.le_of_ble_eq_true rfl)) dX8_plan_198 ⟨Nat.le_of_ble_eq_true rfl, Nat.le_of_ble_eq_true rfl⟩) hS (fun q _ h => hF q h) hF (fun r_98 u t H1 locs ht hvm hw hB hz1 hk1 hS => ?_)
                          rw [hw]
                          obtain ⟨hB, hI_99⟩ := hB
                          obtain ⟨hP, hD⟩ := pw_back hF ht hB
                          clear hB hk1 hz1 hF
                          generalize H1 = H at hP hS ⊢
                          obtain ⟨τc_100, hτc_100⟩ : ∃ t9, (s_X6_choose τc_97 (τc_97 811 0)).2 = t9 := ⟨_, rfl⟩
                          rw [hτc_100] at hP hD hI_99
                          (try rw [hτc_100] at hR)
                          obtain ⟨vc_101, hvc_101⟩ : ∃ t9, (s_X6_choose τc_97 (τc_97 811 0)).1 = t9 := ⟨_, rfl⟩
                          rw [hvc_101]
                          (try rw [hvc_101] at hR)
                          have hI9 : IX τc_100 := hI_99
                          obtain ⟨rfl, rfl⟩ := Prod.mk.inj (show (vc_101, τc_100) = (R1, R2) from hR)
                          rw [hQ]
                          exact W.iret (v := vc_101) hx hb hr (fun t ht hW => ⟨⟨vc_101, (), rfl, rfl, ⟨by rw [ht]; exact hP, va_K.moved hW.alike hK, by rw [← hAe]; exact hD⟩, hI9⟩, hS.F ht⟩) hS.2.2 dX8_plan_201
                        · have hR := (if_neg c_91).symm.trans hR
                          refine lv_aload_n hx hb dX8_plan_167 rfl (lv_at hl 0 rfl) ?_
                          refine lv_bipush (v := (-6 : Int32)) hx hb dX8_plan_168 (by decide) ?_
                          have hF := pw_free hD hS hA
                          refine va_calli (va_runV (As := [.int (-6 : Int32)]) (rest := []) ⟨hx, hb, hml, hown, hts⟩ (k_X8_refuse l D ca h ad pa tb σ (-6 : Int32) H.size hI _ _ (Prod.eta _).symm) (cwV 1 hts gX8_plan_X8_refuse rfl rfl rfl (by decide +kernel) ⟨Nat.le_of_ble_eq_true rfl, Nat.le_of_ble_eq_true rfl⟩) ⟨cw_blind, va_recv hK hP (ci := 8) (q0 := 0) rfl wc_0, cw_give hP hK hD hZ hS hF⟩ rfl rfl hl.1 rfl (lv_room (Nat.le_of_ble_eq_true rfl)) dX8_plan_170 ⟨Nat.le_of_ble_eq_true rfl, Nat.le_of_ble_eq_true rfl⟩) hS (fun q _ h => hF q h) hF (fun r_102 u t H1 locs ht hvm hw hB hz1 hk1 hS => ?_)
                          rw [hw]
                          obtain ⟨hB, hI_103⟩ := hB
                          obtain ⟨hP, hD⟩ := pw_back hF ht hB
                          clear hB hk1 hz1 hF
                          generalize H1 = H at hP hS ⊢
                          obtain ⟨τc_104, hτc_104⟩ : ∃ t9, (s_X8_refuse σ (-6 : Int32)).2 = t9 := ⟨_, rfl⟩
                          rw [hτc_104] at hP hD hI_103
                          (try rw [hτc_104] at hR)
                          obtain ⟨vc_105, hvc_105⟩ : ∃ t9, (s_X8_refuse σ (-6 : Int32)).1 = t9 := ⟨_, rfl⟩
                          rw [hvc_105]
                          (try rw [hvc_105] at hR)
                          have hI9 : IX τc_104 := hI_103
                          obtain ⟨rfl, rfl⟩ := Prod.mk.inj (show (vc_105, τc_104) = (R1, R2) from hR)
                          rw [hQ]
                          exact W.iret (v := vc_105) hx hb hr (fun t ht hW => ⟨⟨vc_105, (), rfl, rfl, ⟨by rw [ht]; exact hP, va_K.moved hW.alike hK, by rw [← hAe]; exact hD⟩, hI9⟩, hS.F ht⟩) hS.2.2 dX8_plan_173
                      have hL_90 : ∀ (n k_90 : Nat) (hk_90 : lpk a3 k_90 n) (H : Heap) (locs : List Loc) (ls : Array Slot), s_X8_plan_c114r_1 σ a1 a2 a3 a4 (iterR (s_X8_plan_l114_1 σ a4) n k_90 ()) = (R1, R2) → va_P D vwCl (WC ca h ad pa σ) H → va_D A (WC ca h ad pa σ) → va_S A s.heap H locs → lv_has ls 7 [(6, .int (nI k_90)), (0, .ref h), (1, .int a1), (2, .int a2), (3, .int a3), (4, .int a4)] → W p l e ((headSpec wsX8_plan ({ frames := 5, cells := 0, slots := 0, locals := 122 })).room) s m ([.ref h, .int a1, .int a2, .int a3, .int a4] : List Value).toArray below meth c H locs 0 0 QQ (F0 m 114 ls []) := by
                        intro n
                        induction n with
                        | zero =>
                          intro k_90 hk_90 H locs ls hR hP hD hS hl
                          refine lv_iload hx hb dX8_plan_114 (lv_at hl 0 rfl) ?_
                          refine lv_iload_n hx hb dX8_plan_116 rfl (lv_at hl 4 rfl) ?_
                          refine lv_icmp_ge (tgt := 152) hx hb dX8_plan_117 (by decide) (fun _ => ?_) (fun c_106 => absurd (ge_end hk_90) c_106)
                          exact hE_90  _ _ _ hR hP hD hS (lv_sub hl [1, 2, 3, 4, 5] rfl)
                        | succ n ih =>
                          intro k_90 hk_90 H locs ls hR hP hD hS hl
                          obtain ⟨S_90, hB_90⟩ : ∃ s9, s_X8_plan_l114_1 σ a4 k_90 () = s9 := ⟨_, rfl⟩
                          have hR : s_X8_plan_c114r_1 σ a1 a2 a3 a4 (iterR1 (s_X8_plan_l114_1 σ a4) n k_90 S_90) = (R1, R2) := by rw [← hB_90]; exact hR
                          have hB_90 : (if (s_X8_openPieces σ (((σ 816 0) + (1 : Int32)) + ((nI k_90) * a4))) = (0 : Int32) then (Sum.inl (((s_X8_refuse σ (-3 : Int32)).1), ((s_X8_refuse σ (-3 : Int32)).2))) else (Sum.inr ())) = S_90 := hB_90
                          refine lv_iload hx hb dX8_plan_114 (lv_at hl 0 rfl) ?_
                          refine lv_iload_n hx hb dX8_plan_116 rfl (lv_at hl 4 rfl) ?_
                          refine lv_icmp_ge (tgt := 152) hx hb dX8_plan_117 (by decide) (fun c_107 => absurd c_107 (ge_go hk_90)) (fun _ => ?_)
                          refine lv_aload_n hx hb dX8_plan_120 rfl (lv_at hl 1 rfl) ?_
                          refine lv_aload_n hx hb dX8_plan_121 rfl (lv_at hl 1 rfl) ?_
                          refine va_get (D := D) (ci := 8) (v := .int (σ 816 0)) (C := RX8) (T := TX8) (N := 19) hx hb hts hu8 hown hK hP 0 wc_0 rfl 16 (by decide) (hts (.fieldLink RX8 91 "GrazeBook" "day" "I") (List.mem_cons_of_mem _ mw_226)) (fun _ h9 => h9) rfl dX8_plan_122 ?_
                          refine lv_iconst (v := (1 : Int32)) hx hb dX8_plan_125 (by decide) ?_
                          refine lv_iadd hx hb dX8_plan_126 ?_
                          refine lv_iload hx hb dX8_plan_127 (lv_at hl 0 rfl) ?_
                          refine lv_iload hx hb dX8_plan_129 (lv_at hl 5 rfl) ?_
                          refine lv_imul hx hb dX8_plan_131 ?_
                          refine lv_iadd hx hb dX8_plan_132 ?_
                          have hF := pw_free hD hS hA
                          refine va_calli (va_runV (As := [.int (((σ 816 0) + (1 : Int32)) + ((nI k_90) * a4))]) (rest := []) ⟨hx, hb, hml, hown, hts⟩ (k_X8_openPieces l D ca h ad pa tb σ (((σ 816 0) + (1 : Int32)) + ((nI k_90) * a4)) H.size hI _ rfl) (cwV 1 hts gX8_plan_X8_openPieces rfl rfl rfl (by decide +kernel) ⟨Nat.le_of_ble_eq_true rfl, Nat.le_of_ble_eq_true rfl⟩) ⟨cw_blind, va_recv hK hP (ci := 8) (q0 := 0) rfl wc_0, cw_give hP hK hD hZ hS hF⟩ rfl rfl hl.1 rfl (lv_room (Nat.le_of_ble_eq_true rfl)) dX8_plan_133 ⟨Nat.le_of_ble_eq_true rfl, Nat.le_of_ble_eq_true rfl⟩) hS (fun q _ h => hF q h) hF (fun r_108 u t H1 locs ht hvm hw hB hz1 hk1 hS => ?_)
                          rw [hw]
                          obtain ⟨hP, hD⟩ := pw_back hF ht hB
                          clear hB hk1 hz1 hF
                          generalize H1 = H at hP hS ⊢
                          refine lv_if_ne (tgt := 146) hx hb dX8_plan_136 (by decide) (fun c_109 => ?_) (fun c_109 => ?_)
                          · have hB_90 := (if_neg c_109).symm.trans hB_90
                            refine lv_iinc (v := (nI (k_90 + 1))) (lv' := [(6, .int (nI (k_90 + 1))), (0, .ref h), (1, .int a1), (2, .int a2), (3, .int a3), (4, .int a4)]) hx hb dX8_plan_146 hl (k := 0) rfl (by rw [show Int32.ofInt 1 = 1 from by decide]; exact nI_1 _) (by decide) rfl (fun ls hl => ?_)
                            refine lv_goto (tgt := 114) hx hb dX8_plan_149 (by decide) ?_
                            subst hB_90
                            exact ih (k_90 + 1)  (ge_next hk_90)  _ _ _ hR hP hD hS (lv_sub hl [0, 1, 2, 3, 4, 5] rfl)
                          · have hB_90 := (if_pos c_109).symm.trans hB_90
                            refine lv_aload_n hx hb dX8_plan_139 rfl (lv_at hl 1 rfl) ?_
                            refine lv_bipush (v := (-3 : Int32)) hx hb dX8_plan_140 (by decide) ?_
                            have hF := pw_free hD hS hA
                            refine va_calli (va_runV (As := [.int (-3 : Int32)]) (rest := []) ⟨hx, hb, hml, hown, hts⟩ (k_X8_refuse l D ca h ad pa tb σ (-3 : Int32) H.size hI _ _ (Prod.eta _).symm) (cwV 1 hts gX8_plan_X8_refuse rfl rfl rfl (by decide +kernel) ⟨Nat.le_of_ble_eq_true rfl, Nat.le_of_ble_eq_true rfl⟩) ⟨cw_blind, va_recv hK hP (ci := 8) (q0 := 0) rfl wc_0, cw_give hP hK hD hZ hS hF⟩ rfl rfl hl.1 rfl (lv_room (Nat.le_of_ble_eq_true rfl)) dX8_plan_142 ⟨Nat.le_of_ble_eq_true rfl, Nat.le_of_ble_eq_true rfl⟩) hS (fun q _ h => hF q h) hF (fun r_110 u t H1 locs ht hvm hw hB hz1 hk1 hS => ?_)
                            rw [hw]
                            obtain ⟨hB, hI_111⟩ := hB
                            obtain ⟨hP, hD⟩ := pw_back hF ht hB
                            clear hB hk1 hz1 hF
                            generalize H1 = H at hP hS ⊢
                            obtain ⟨τc_112, hτc_112⟩ : ∃ t9, (s_X8_refuse σ (-3 : Int32)).2 = t9 := ⟨_, rfl⟩
                            rw [hτc_112] at hP hD hI_111
                            (try rw [hτc_112] at hB_90)
                            obtain ⟨vc_113, hvc_113⟩ : ∃ t9, (s_X8_refuse σ (-3 : Int32)).1 = t9 := ⟨_, rfl⟩
                            rw [hvc_113]
                            (try rw [hvc_113] at hB_90)
                            subst hB_90
                            have hI9 : IX τc_112 := hI_111
                            obtain ⟨rfl, rfl⟩ := Prod.mk.inj (show (vc_113, τc_112) = (R1, R2) from hR)
                            rw [hQ]
                            exact W.iret (v := vc_113) hx hb hr (fun t ht hW => ⟨⟨vc_113, (), rfl, rfl, ⟨by rw [ht]; exact hP, va_K.moved hW.alike hK, by rw [← hAe]; exact hD⟩, hI9⟩, hS.F ht⟩) hS.2.2 dX8_plan_145
                      exact hL_90 _ 0  ⟨rfl, by decide⟩  _ _ _ hR hP hD hS (lv_sub hl [0, 2, 3, 4, 5, 6] rfl)
                    · have hR := (if_neg c_89).symm.trans hR
                      refine lv_aload_n hx hb dX8_plan_104 rfl (lv_at hl 1 rfl) ?_
                      refine lv_bipush (v := (-3 : Int32)) hx hb dX8_plan_105 (by decide) ?_
                      have hF := pw_free hD hS hA
                      refine va_calli (va_runV (As := [.int (-3 : Int32)]) (rest := []) ⟨hx, hb, hml, hown, hts⟩ (k_X8_refuse l D ca h ad pa tb σ (-3 : Int32) H.size hI _ _ (Prod.eta _).symm) (cwV 1 hts gX8_plan_X8_refuse rfl rfl rfl (by decide +kernel) ⟨Nat.le_of_ble_eq_true rfl, Nat.le_of_ble_eq_true rfl⟩) ⟨cw_blind, va_recv hK hP (ci := 8) (q0 := 0) rfl wc_0, cw_give hP hK hD hZ hS hF⟩ rfl rfl hl.1 rfl (lv_room (Nat.le_of_ble_eq_true rfl)) dX8_plan_107 ⟨Nat.le_of_ble_eq_true rfl, Nat.le_of_ble_eq_true rfl⟩) hS (fun q _ h => hF q h) hF (fun r_114 u t H1 locs ht hvm hw hB hz1 hk1 hS => ?_)
                      rw [hw]
                      obtain ⟨hB, hI_115⟩ := hB
                      obtain ⟨hP, hD⟩ := pw_back hF ht hB
                      clear hB hk1 hz1 hF
                      generalize H1 = H at hP hS ⊢
                      obtain ⟨τc_116, hτc_116⟩ : ∃ t9, (s_X8_refuse σ (-3 : Int32)).2 = t9 := ⟨_, rfl⟩
                      rw [hτc_116] at hP hD hI_115
                      (try rw [hτc_116] at hR)
                      obtain ⟨vc_117, hvc_117⟩ : ∃ t9, (s_X8_refuse σ (-3 : Int32)).1 = t9 := ⟨_, rfl⟩
                      rw [hvc_117]
                      (try rw [hvc_117] at hR)
                      have hI9 : IX τc_116 := hI_115
                      obtain ⟨rfl, rfl⟩ := Prod.mk.inj (show (vc_117, τc_116) = (R1, R2) from hR)
                      rw [hQ]
                      exact W.iret (v := vc_117) hx hb hr (fun t ht hW => ⟨⟨vc_117, (), rfl, rfl, ⟨by rw [ht]; exact hP, va_K.moved hW.alike hK, by rw [← hAe]; exact hD⟩, hI9⟩, hS.F ht⟩) hS.2.2 dX8_plan_110
                · have hR := (if_neg c_82).symm.trans hR
                  refine lv_aload_n hx hb dX8_plan_68 rfl (lv_at hl 1 rfl) ?_
                  refine lv_bipush (v := (-2 : Int32)) hx hb dX8_plan_69 (by decide) ?_
                  have hF := pw_free hD hS hA
                  refine va_calli (va_runV (As := [.int (-2 : Int32)]) (rest := []) ⟨hx, hb, hml, hown, hts⟩ (k_X8_refuse l D ca h ad pa tb σ (-2 : Int32) H.size hI _ _ (Prod.eta _).symm) (cwV 1 hts gX8_plan_X8_refuse rfl rfl rfl (by decide +kernel) ⟨Nat.le_of_ble_eq_true rfl, Nat.le_of_ble_eq_true rfl⟩) ⟨cw_blind, va_recv hK hP (ci := 8) (q0 := 0) rfl wc_0, cw_give hP hK hD hZ hS hF⟩ rfl rfl hl.1 rfl (lv_room (Nat.le_of_ble_eq_true rfl)) dX8_plan_71 ⟨Nat.le_of_ble_eq_true rfl, Nat.le_of_ble_eq_true rfl⟩) hS (fun q _ h => hF q h) hF (fun r_118 u t H1 locs ht hvm hw hB hz1 hk1 hS => ?_)
                  rw [hw]
                  obtain ⟨hB, hI_119⟩ := hB
                  obtain ⟨hP, hD⟩ := pw_back hF ht hB
                  clear hB hk1 hz1 hF
                  generalize H1 = H at hP hS ⊢
                  obtain ⟨τc_120, hτc_120⟩ : ∃ t9, (s_X8_refuse σ (-2 : Int32)).2 = t9 := ⟨_, rfl⟩
                  rw [hτc_120] at hP hD hI_119
                  (try rw [hτc_120] at hR)
                  obtain ⟨vc_121, hvc_121⟩ : ∃ t9, (s_X8_refuse σ (-2 : Int32)).1 = t9 := ⟨_, rfl⟩
                  rw [hvc_121]
                  (try rw [hvc_121] at hR)
                  have hI9 : IX τc_120 := hI_119
                  obtain ⟨rfl, rfl⟩ := Prod.mk.inj (show (vc_121, τc_120) = (R1, R2) from hR)
                  rw [hQ]
                  exact W.iret (v := vc_121) hx hb hr (fun t ht hW => ⟨⟨vc_121, (), rfl, rfl, ⟨by rw [ht]; exact hP, va_K.moved hW.alike hK, by rw [← hAe]; exact hD⟩, hI9⟩, hS.F ht⟩) hS.2.2 dX8_plan_74
        · have hR := (if_pos c_65).symm.trans hR
          refine lv_aload_n hx hb dX8_plan_26 rfl (lv_at hl 0 rfl) ?_
          refine lv_iconst (v := (-1 : Int32)) hx hb dX8_plan_27 (by decide) ?_
          have hF := pw_free hD hS hA
          refine va_calli (va_runV (As := [.int (-1 : Int32)]) (rest := []) ⟨hx, hb, hml, hown, hts⟩ (k_X8_refuse l D ca h ad pa tb σ (-1 : Int32) H.size hI _ _ (Prod.eta _).symm) (cwV 1 hts gX8_plan_X8_refuse rfl rfl rfl (by decide +kernel) ⟨Nat.le_of_ble_eq_true rfl, Nat.le_of_ble_eq_true rfl⟩) ⟨cw_blind, va_recv hK hP (ci := 8) (q0 := 0) rfl wc_0, cw_give hP hK hD hZ hS hF⟩ rfl rfl hl.1 rfl (lv_room (Nat.le_of_ble_eq_true rfl)) dX8_plan_28 ⟨Nat.le_of_ble_eq_true rfl, Nat.le_of_ble_eq_true rfl⟩) hS (fun q _ h => hF q h) hF (fun r_122 u t H1 locs ht hvm hw hB hz1 hk1 hS => ?_)
          rw [hw]
          obtain ⟨hB, hI_123⟩ := hB
          obtain ⟨hP, hD⟩ := pw_back hF ht hB
          clear hB hk1 hz1 hF
          generalize H1 = H at hP hS ⊢
          obtain ⟨τc_124, hτc_124⟩ : ∃ t9, (s_X8_refuse σ (-1 : Int32)).2 = t9 := ⟨_, rfl⟩
          rw [hτc_124] at hP hD hI_123
          (try rw [hτc_124] at hR)
          obtain ⟨vc_125, hvc_125⟩ : ∃ t9, (s_X8_refuse σ (-1 : Int32)).1 = t9 := ⟨_, rfl⟩
          rw [hvc_125]
          (try rw [hvc_125] at hR)
          have hI9 : IX τc_124 := hI_123
          obtain ⟨rfl, rfl⟩ := Prod.mk.inj (show (vc_125, τc_124) = (R1, R2) from hR)
          rw [hQ]
          exact W.iret (v := vc_125) hx hb hr (fun t ht hW => ⟨⟨vc_125, (), rfl, rfl, ⟨by rw [ht]; exact hP, va_K.moved hW.alike hK, by rw [← hAe]; exact hD⟩, hI9⟩, hS.F ht⟩) hS.2.2 dX8_plan_31

