def s_X1_clear_c2  : St → St := fun x9 => match x9 with
  | τ_1 => (put (put τ_1 103 0 (0 : Int32)) 104 0 (0 : Int32))
def s_X1_clear_l2  (k_1 : Nat) : St → St := fun x9 => match x9 with
  | τ_1 => (put (put (put τ_1 100 k_1 (0 : Int32)) 101 k_1 (0 : Int32)) 102 k_1 (0 : Int32))
def s_X1_clear (σ : St) : St := (s_X1_clear_c2 (iter s_X1_clear_l2 ((6 : Int32).toNatClampNeg - 0) 0 σ))
theorem fr_s_X1_clear_c2  (s : St) {f : Nat} (h100 : f ≠ 100) (h101 : f ≠ 101) (h102 : f ≠ 102) (h103 : f ≠ 103) (h104 : f ≠ 104) : (s_X1_clear_c2 s) f = s f := by
  unfold s_X1_clear_c2
  all_goals ((try dsimp only) <;> ((repeat' split) <;> (try simp only [put_fr, ne_eq, not_false_eq_true, h100, h101, h102, h103, h104])))
theorem fr_s_X1_clear_l2  (k_1 : Nat) (s : St) {f : Nat} (h100 : f ≠ 100) (h101 : f ≠ 101) (h102 : f ≠ 102) (h103 : f ≠ 103) (h104 : f ≠ 104) : (s_X1_clear_l2 k_1 s) f = s f := by
  unfold s_X1_clear_l2
  all_goals ((try dsimp only) <;> ((repeat' split) <;> (try simp only [put_fr, ne_eq, not_false_eq_true, h100, h101, h102, h103, h104, fr_s_X1_clear_c2])))
theorem fri_s_X1_clear_l2  (n k : Nat) (s : St) {f : Nat} (h100 : f ≠ 100) (h101 : f ≠ 101) (h102 : f ≠ 102) (h103 : f ≠ 103) (h104 : f ≠ 104) : (iter s_X1_clear_l2 n k s) f = s f := iter_fr (P := (fun s => s f)) (fun k s => fr_s_X1_clear_l2  k s h100 h101 h102 h103 h104) n k s
theorem fr_s_X1_clear (σ : St) {f : Nat} (h100 : f ≠ 100) (h101 : f ≠ 101) (h102 : f ≠ 102) (h103 : f ≠ 103) (h104 : f ≠ 104) : (s_X1_clear σ ) f = σ f := by
  unfold s_X1_clear
  all_goals ((try dsimp only) <;> ((repeat' split) <;> (try simp only [put_fr, ne_eq, not_false_eq_true, h100, h101, h102, h103, h104, fr_s_X1_clear_c2, fri_s_X1_clear_l2])))
set_option maxHeartbeats 1000000 in
set_option maxRecDepth 100000 in
theorem k_X1_clear (l : Launch) (D : va_G) (ca : Nat → ClassId) (h : Nat) (ad : Nat → Nat) (pa : Nat → Nat → Nat) (tb : Nat) (σ : St) (sz : Nat) (hI : IX σ)  (R : St) (hR : s_X1_clear σ = R) : Met l yX1_clear wsX1_clear ({ frames := 0, cells := 0, slots := 0, locals := 0 }) (va_Pc [.ref (ad 807)] (cw_pre D ca (WC ca h ad pa σ) sz tb)) (va_Qv (fun _ : Unit => True) (fun (_ : Unit) (t : State) => pw_post D ca (WC ca h ad pa σ) sz (WC ca h ad pa R) t ∧ IX R) (va_A (WC ca h ad pa σ) sz)) 0 0 (va_A (WC ca h ad pa σ) sz) := by
  refine Met.ofW (cc := cX1_clear) (maxL := 2) (ret := none) (by decide) rfl ?_
  intro p e s m args below meth c s₁ B hml hv
  obtain ⟨rfl, ⟨hsz, hP, hK, hD0⟩, hZ⟩ := hv
  have hx := B.exec
  have hb := B.bytes
  have hr := B.returns
  have hts := atoms_spec (ws := wsX1_clear) B.pre
  have hown : s.vm.findClass RX1 = some m.cls := findClass_of_methodNamed B.named
  have hlocks := B.notSynchronized
  have hu1 : ∀ w ∈ u_ws RX1 TX1 5, w ∈ wsX1_clear := fun w h => List.mem_cons_of_mem _ (uw1 w h)
  subst hsz
  have hD := hD0.self (sz := s.heap.size)
  obtain ⟨A, hAe⟩ : ∃ A, A = va_A (WC ca h ad pa σ) s.heap.size := ⟨_, rfl⟩
  rw [← hAe] at hD hZ ⊢
  have hA : ∀ q : Nat, s.heap.size ≤ q → A q := fun q h => by rw [hAe]; exact Or.inr h
  have hS : va_S A s.heap s.heap [] := va_S.rf
  have hl := lv_entry ([.ref (ad 807)]) (n := 2) (Nat.le_of_ble_eq_true rfl)
  rw [lg_entry_eq]
  generalize (lg_sl ([.ref (ad 807)]) ++ List.replicate (2 - (lg_sl ([.ref (ad 807)])).length) Slot.unset).toArray = ls at hl ⊢
  have hl : lv_has ls 2 [(0, .ref (ad 807))] := hl
  obtain ⟨H, hH⟩ : ∃ H, H = s.heap := ⟨_, rfl⟩
  have hP : va_P D vwCl (WC ca h ad pa σ) H := by rw [hH]; exact hP
  have hS : va_S A s.heap H [] := by rw [hH]; exact hS
  obtain ⟨QQ, hQ⟩ : ∃ Q9, Q9 = MQ below (va_Qv (fun _ : Unit => True) (fun (_ : Unit) (t : State) => pw_post D ca (WC ca h ad pa σ) s.heap.size (WC ca h ad pa R) t ∧ IX R) A) ([.ref (ad 807)] : List Value).toArray s 0 0 A := ⟨_, rfl⟩
  rw [← hQ]
  show W _ _ _ _ _ _ _ _ _ _ s.heap _ _ _ _ _
  rw [← hH]
  have hR : (s_X1_clear_c2 (iter s_X1_clear_l2 ((6 : Int32).toNatClampNeg - 0) 0 σ)) = R := hR
  refine lv_iconst (v := (0 : Int32)) hx hb dX1_clear_0 (by decide) ?_
  refine lv_istore_n (lv' := [(1, .int (0 : Int32)), (0, .ref (ad 807))]) hx hb dX1_clear_1 rfl hl (by decide) rfl (fun ls hl => ?_)
  have hE_1 : ∀ (τ_1 : St) (hI_1 : IX τ_1) (hf_1 : τ_1 811 = σ 811 ∧ τ_1 812 = σ 812 ∧ τ_1 814 = σ 814 ∧ τ_1 815 = σ 815) (H : Heap) (locs : List Loc) (ls : Array Slot), s_X1_clear_c2 τ_1 = R → va_P D vwCl (WC ca h ad pa τ_1) H → va_D A (WC ca h ad pa τ_1) → va_S A s.heap H locs → lv_has ls 2 [(0, .ref (ad 807))] → W p l e ((headSpec wsX1_clear ({ frames := 0, cells := 0, slots := 0, locals := 0 })).room) s m ([.ref (ad 807)] : List Value).toArray below meth c H locs 0 0 QQ (F0 m 35 ls []) := by
    intro τ_1 hI_1 hf_1 H locs ls hR hP hD hS hl
    have hR : (put (put τ_1 103 0 (0 : Int32)) 104 0 (0 : Int32)) = R := hR
    refine lv_aload_n hx hb dX1_clear_35 rfl (lv_at hl 0 rfl) ?_
    refine lv_iconst (v := (0 : Int32)) hx hb dX1_clear_36 (by decide) ?_
    refine va_put (D := D) (ci := 1) (v := .int (0 : Int32)) (ty := .int) (C := RX1) (T := TX1) (N := 5) hx hb hts hu1 tyX1 tyX1_ok nmX1 hown hK hP hD hS 3 wc_3 rfl 3 (by decide) (hts (.fieldLink RX1 21 "GrazeBook$Cover" "walks" "I") (List.mem_cons_of_mem _ mw_123)) (fun _ h9 => h9) rfl (by decide +kernel) rfl rfl (Nat.le_of_ble_eq_true rfl) dX1_clear_37 (fun H locs hP hD hS => ?_)
    rw [wc_p103] at hP hD
    refine lv_aload_n hx hb dX1_clear_40 rfl (lv_at hl 0 rfl) ?_
    refine lv_iconst (v := (0 : Int32)) hx hb dX1_clear_41 (by decide) ?_
    refine va_put (D := D) (ci := 1) (v := .int (0 : Int32)) (ty := .int) (C := RX1) (T := TX1) (N := 5) hx hb hts hu1 tyX1 tyX1_ok nmX1 hown hK hP hD hS 3 wc_3 rfl 4 (by decide) (hts (.fieldLink RX1 25 "GrazeBook$Cover" "forAny" "I") (List.mem_cons_of_mem _ mw_124)) (fun _ h9 => h9) rfl (by decide +kernel) rfl rfl (Nat.le_of_ble_eq_true rfl) dX1_clear_42 (fun H locs hP hD hS => ?_)
    rw [wc_p104] at hP hD
    have hI9 : IX (put (put τ_1 103 0 (0 : Int32)) 104 0 (0 : Int32)) := hI_1
    subst hR
    rw [hQ]
    exact W.vret hx hb hr (fun t ht hW => ⟨⟨(), rfl, trivial, ⟨by rw [ht]; exact hP, va_K.moved hW.alike hK, by rw [← hAe]; exact hD⟩, hI9⟩, hS.F ht⟩) hS.2.2 dX1_clear_45
  have hL_1 : ∀ (n k_1 : Nat) (τ_1 : St) (hk_1 : lpk (6 : Int32) k_1 n) (hI_1 : IX τ_1) (hf_1 : τ_1 811 = σ 811 ∧ τ_1 812 = σ 812 ∧ τ_1 814 = σ 814 ∧ τ_1 815 = σ 815) (H : Heap) (locs : List Loc) (ls : Array Slot), s_X1_clear_c2 (iter s_X1_clear_l2 n k_1 τ_1) = R → va_P D vwCl (WC ca h ad pa τ_1) H → va_D A (WC ca h ad pa τ_1) → va_S A s.heap H locs → lv_has ls 2 [(1, .int (nI k_1)), (0, .ref (ad 807))] → W p l e ((headSpec wsX1_clear ({ frames := 0, cells := 0, slots := 0, locals := 0 })).room) s m ([.ref (ad 807)] : List Value).toArray below meth c H locs 0 0 QQ (F0 m 2 ls []) := by
    intro n
    induction n with
    | zero =>
      intro k_1 τ_1 hk_1 hI_1 hf_1 H locs ls hR hP hD hS hl
      refine lv_iload_n hx hb dX1_clear_2 rfl (lv_at hl 0 rfl) ?_
      refine lv_bipush (v := (6 : Int32)) hx hb dX1_clear_3 (by decide) ?_
      refine lv_icmp_ge (tgt := 35) hx hb dX1_clear_5 (by decide) (fun _ => ?_) (fun c_2 => absurd (ge_end hk_1) c_2)
      exact hE_1 τ_1 hI_1 hf_1 _ _ _ hR hP hD hS (lv_sub hl [1] rfl)
    | succ n ih =>
      intro k_1 τ_1 hk_1 hI_1 hf_1 H locs ls hR hP hD hS hl
      obtain ⟨S_1, hB_1⟩ : ∃ s9, s_X1_clear_l2 k_1 τ_1 = s9 := ⟨_, rfl⟩
      have hR : s_X1_clear_c2 (iter s_X1_clear_l2 n (k_1 + 1) S_1) = R := by rw [← hB_1]; exact hR
      have hB_1 : (put (put (put τ_1 100 k_1 (0 : Int32)) 101 k_1 (0 : Int32)) 102 k_1 (0 : Int32)) = S_1 := hB_1
      refine lv_iload_n hx hb dX1_clear_2 rfl (lv_at hl 0 rfl) ?_
      refine lv_bipush (v := (6 : Int32)) hx hb dX1_clear_3 (by decide) ?_
      refine lv_icmp_ge (tgt := 35) hx hb dX1_clear_5 (by decide) (fun c_3 => absurd c_3 (ge_go hk_1)) (fun _ => ?_)
      refine lv_aload_n hx hb dX1_clear_8 rfl (lv_at hl 1 rfl) ?_
      refine va_get (D := D) (ci := 1) (v := .ref (ad 100)) (C := RX1) (T := TX1) (N := 5) hx hb hts hu1 hown hK hP 3 wc_3 rfl 0 (by decide) (hts (.fieldLink RX1 9 "GrazeBook$Cover" "sheepOn" "[I") (List.mem_cons_of_mem _ mw_120)) (fun _ h9 => h9) rfl dX1_clear_9 ?_
      refine lv_iload_n hx hb dX1_clear_12 rfl (lv_at hl 0 rfl) ?_
      refine lv_iconst (v := (0 : Int32)) hx hb dX1_clear_13 (by decide) ?_
      refine va_iast_k (k := k_1) hx hb hK hP hD hS 14 0 wc_14 rfl (ix_cl hk_1) (ix_loop (N := 6) hk_1 (show 0 ≤ (6 : Int32).toInt ∧ (6 : Int32).toInt ≤ ((6 : Nat) : Int) by decide) (by decide) (by decide)) dX1_clear_14 (fun H locs hP hD hS => ?_)
      rw [wc_s100] at hP hD
      refine lv_aload_n hx hb dX1_clear_15 rfl (lv_at hl 1 rfl) ?_
      refine va_get (D := D) (ci := 1) (v := .ref (ad 101)) (C := RX1) (T := TX1) (N := 5) hx hb hts hu1 hown hK hP 3 wc_3 rfl 1 (by decide) (hts (.fieldLink RX1 15 "GrazeBook$Cover" "othersOn" "[I") (List.mem_cons_of_mem _ mw_121)) (fun _ h9 => h9) rfl dX1_clear_16 ?_
      refine lv_iload_n hx hb dX1_clear_19 rfl (lv_at hl 0 rfl) ?_
      refine lv_iconst (v := (0 : Int32)) hx hb dX1_clear_20 (by decide) ?_
      refine va_iast_k (k := k_1) hx hb hK hP hD hS 15 0 wc_15 rfl (ix_cl hk_1) (ix_loop (N := 6) hk_1 (show 0 ≤ (6 : Int32).toInt ∧ (6 : Int32).toInt ≤ ((6 : Nat) : Int) by decide) (by decide) (by decide)) dX1_clear_21 (fun H locs hP hD hS => ?_)
      rw [wc_s101] at hP hD
      refine lv_aload_n hx hb dX1_clear_22 rfl (lv_at hl 1 rfl) ?_
      refine va_get (D := D) (ci := 1) (v := .ref (ad 102)) (C := RX1) (T := TX1) (N := 5) hx hb hts hu1 hown hK hP 3 wc_3 rfl 2 (by decide) (hts (.fieldLink RX1 18 "GrazeBook$Cover" "leazesFor" "[I") (List.mem_cons_of_mem _ mw_122)) (fun _ h9 => h9) rfl dX1_clear_23 ?_
      refine lv_iload_n hx hb dX1_clear_26 rfl (lv_at hl 0 rfl) ?_
      refine lv_iconst (v := (0 : Int32)) hx hb dX1_clear_27 (by decide) ?_
      refine va_iast_k (k := k_1) hx hb hK hP hD hS 16 0 wc_16 rfl (ix_cl hk_1) (ix_loop (N := 6) hk_1 (show 0 ≤ (6 : Int32).toInt ∧ (6 : Int32).toInt ≤ ((6 : Nat) : Int) by decide) (by decide) (by decide)) dX1_clear_28 (fun H locs hP hD hS => ?_)
      rw [wc_s102] at hP hD
      refine lv_iinc (v := (nI (k_1 + 1))) (lv' := [(1, .int (nI (k_1 + 1))), (0, .ref (ad 807))]) hx hb dX1_clear_29 hl (k := 0) rfl (by rw [show Int32.ofInt 1 = 1 from by decide]; exact nI_1 _) (by decide) rfl (fun ls hl => ?_)
      refine lv_goto (tgt := 2) hx hb dX1_clear_32 (by decide) ?_
      subst hB_1
      exact ih (k_1 + 1) (put (put (put τ_1 100 k_1 (0 : Int32)) 101 k_1 (0 : Int32)) 102 k_1 (0 : Int32)) (ge_next hk_1) hI_1 (⟨hf_1.1, hf_1.2.1, hf_1.2.2.1, hf_1.2.2.2⟩) _ _ _ hR hP hD hS (lv_sub hl [0, 1] rfl)
  exact hL_1 _ 0 σ ⟨rfl, by decide⟩ hI (⟨rfl, rfl, rfl, rfl⟩) _ _ _ hR hP hD hS (lv_sub hl [0, 1] rfl)

def s_X1_addHerd (σ : St) (j : Nat) : St := (if (σ 203 j) < (0 : Int32) then σ else (if (σ 203 j) < (6 : Int32) then (if (σ 201 j) = (2 : Int32) then (put σ 100 ((σ 203 j).toNatClampNeg) ((σ 100 ((σ 203 j).toNatClampNeg)) + (s_X2_parts σ j))) else (put σ 101 ((σ 203 j).toNatClampNeg) ((σ 101 ((σ 203 j).toNatClampNeg)) + (s_X2_parts σ j)))) else σ))
theorem fr_s_X1_addHerd (σ : St) (j : Nat) {f : Nat} (h100 : f ≠ 100) (h101 : f ≠ 101) : (s_X1_addHerd σ j ) f = σ f := by
  unfold s_X1_addHerd
  all_goals ((try dsimp only) <;> ((repeat' split) <;> (try simp only [put_fr, ne_eq, not_false_eq_true, h100, h101])))
set_option maxHeartbeats 1000000 in
set_option maxRecDepth 100000 in
theorem k_X1_addHerd (l : Launch) (D : va_G) (ca : Nat → ClassId) (h : Nat) (ad : Nat → Nat) (pa : Nat → Nat → Nat) (tb : Nat) (σ : St) (j : Nat) (sz : Nat) (hI : IX σ) (hj : j < (σ 815 0).toNatClampNeg) (R : St) (hR : s_X1_addHerd σ j = R) : Met l yX1_addHerd wsX1_addHerd ({ frames := 1, cells := 0, slots := 0, locals := 20 }) (va_Pc [.ref (ad 807), .ref (pa 3 j)] (cw_pre D ca (WC ca h ad pa σ) sz tb)) (va_Qv (fun _ : Unit => True) (fun (_ : Unit) (t : State) => pw_post D ca (WC ca h ad pa σ) sz (WC ca h ad pa R) t ∧ IX R) (va_A (WC ca h ad pa σ) sz)) 0 0 (va_A (WC ca h ad pa σ) sz) := by
  refine Met.ofW (cc := cX1_addHerd) (maxL := 2) (ret := none) (by decide) rfl ?_
  intro p e s m args below meth c s₁ B hml hv
  obtain ⟨rfl, ⟨hsz, hP, hK, hD0⟩, hZ⟩ := hv
  have hx := B.exec
  have hb := B.bytes
  have hr := B.returns
  have hts := atoms_spec (ws := wsX1_addHerd) B.pre
  have hown : s.vm.findClass RX1 = some m.cls := findClass_of_methodNamed B.named
  have hlocks := B.notSynchronized
  have hu1 : ∀ w ∈ u_ws RX1 TX1 5, w ∈ wsX1_addHerd := fun w h => List.mem_cons_of_mem _ (uw1 w h)
  have hu2 : ∀ w ∈ u_ws RX2 TX2 8, w ∈ wsX1_addHerd := fun w h => List.mem_cons_of_mem _ (uw2 w h)
  subst hsz
  have hD := hD0.self (sz := s.heap.size)
  obtain ⟨A, hAe⟩ : ∃ A, A = va_A (WC ca h ad pa σ) s.heap.size := ⟨_, rfl⟩
  rw [← hAe] at hD hZ ⊢
  have hA : ∀ q : Nat, s.heap.size ≤ q → A q := fun q h => by rw [hAe]; exact Or.inr h
  have hS : va_S A s.heap s.heap [] := va_S.rf
  have hl := lv_entry ([.ref (ad 807), .ref (pa 3 j)]) (n := 2) (Nat.le_of_ble_eq_true rfl)
  rw [lg_entry_eq]
  generalize (lg_sl ([.ref (ad 807), .ref (pa 3 j)]) ++ List.replicate (2 - (lg_sl ([.ref (ad 807), .ref (pa 3 j)])).length) Slot.unset).toArray = ls at hl ⊢
  have hl : lv_has ls 2 [(0, .ref (ad 807)), (1, .ref (pa 3 j))] := hl
  obtain ⟨H, hH⟩ : ∃ H, H = s.heap := ⟨_, rfl⟩
  have hP : va_P D vwCl (WC ca h ad pa σ) H := by rw [hH]; exact hP
  have hS : va_S A s.heap H [] := by rw [hH]; exact hS
  obtain ⟨QQ, hQ⟩ : ∃ Q9, Q9 = MQ below (va_Qv (fun _ : Unit => True) (fun (_ : Unit) (t : State) => pw_post D ca (WC ca h ad pa σ) s.heap.size (WC ca h ad pa R) t ∧ IX R) A) ([.ref (ad 807), .ref (pa 3 j)] : List Value).toArray s 0 0 A := ⟨_, rfl⟩
  rw [← hQ]
  show W _ _ _ _ _ _ _ _ _ _ s.heap _ _ _ _ _
  rw [← hH]
  have hR : (if (σ 203 j) < (0 : Int32) then σ else (if (σ 203 j) < (6 : Int32) then (if (σ 201 j) = (2 : Int32) then (put σ 100 ((σ 203 j).toNatClampNeg) ((σ 100 ((σ 203 j).toNatClampNeg)) + (s_X2_parts σ j))) else (put σ 101 ((σ 203 j).toNatClampNeg) ((σ 101 ((σ 203 j).toNatClampNeg)) + (s_X2_parts σ j)))) else σ)) = R := hR
  refine lv_aload_n hx hb dX1_addHerd_0 rfl (lv_at hl 1 rfl) ?_
  refine va_get (D := D) (ci := 2) (v := .int (σ 203 j)) (C := RX2) (T := TX2) (N := 8) hx hb hts hu2 hown hK hP (pcD ca h ad pa σ j) (wc_aD hj) rfl 3 (by decide) (hts (.fieldLink RX1 28 "GrazeBook$Drove" "piece" "I") (List.mem_cons_of_mem _ mw_449)) (fun _ h9 => h9) rfl dX1_addHerd_1 ?_
  refine lv_if_lt (tgt := 16) hx hb dX1_addHerd_4 (by decide) (fun c_1 => ?_) (fun c_1 => ?_)
  · have hR := (if_pos c_1).symm.trans hR
    have hI9 : IX σ := hI
    subst hR
    rw [hQ]
    exact W.vret hx hb hr (fun t ht hW => ⟨⟨(), rfl, trivial, ⟨by rw [ht]; exact hP, va_K.moved hW.alike hK, by rw [← hAe]; exact hD⟩, hI9⟩, hS.F ht⟩) hS.2.2 dX1_addHerd_16
  · have hR := (if_neg c_1).symm.trans hR
    refine lv_aload_n hx hb dX1_addHerd_7 rfl (lv_at hl 1 rfl) ?_
    refine va_get (D := D) (ci := 2) (v := .int (σ 203 j)) (C := RX2) (T := TX2) (N := 8) hx hb hts hu2 hown hK hP (pcD ca h ad pa σ j) (wc_aD hj) rfl 3 (by decide) (hts (.fieldLink RX1 28 "GrazeBook$Drove" "piece" "I") (List.mem_cons_of_mem _ mw_449)) (fun _ h9 => h9) rfl dX1_addHerd_8 ?_
    refine lv_bipush (v := (6 : Int32)) hx hb dX1_addHerd_11 (by decide) ?_
    refine lv_icmp_lt (tgt := 17) hx hb dX1_addHerd_13 (by decide) (fun c_2 => ?_) (fun c_2 => ?_)
    · have hR := (if_pos c_2).symm.trans hR
      refine lv_aload_n hx hb dX1_addHerd_17 rfl (lv_at hl 1 rfl) ?_
      refine va_get (D := D) (ci := 2) (v := .int (σ 201 j)) (C := RX2) (T := TX2) (N := 8) hx hb hts hu2 hown hK hP (pcD ca h ad pa σ j) (wc_aD hj) rfl 1 (by decide) (hts (.fieldLink RX1 33 "GrazeBook$Drove" "sort" "I") (List.mem_cons_of_mem _ mw_443)) (fun _ h9 => h9) rfl dX1_addHerd_18 ?_
      refine lv_iconst (v := (2 : Int32)) hx hb dX1_addHerd_21 (by decide) ?_
      refine lv_icmp_ne (tgt := 44) hx hb dX1_addHerd_22 (by decide) (fun c_3 => ?_) (fun c_3 => ?_)
      · have hR := (if_neg c_3).symm.trans hR
        refine lv_aload_n hx hb dX1_addHerd_44 rfl (lv_at hl 0 rfl) ?_
        refine va_get (D := D) (ci := 1) (v := .ref (ad 101)) (C := RX1) (T := TX1) (N := 5) hx hb hts hu1 hown hK hP 3 wc_3 rfl 1 (by decide) (hts (.fieldLink RX1 15 "GrazeBook$Cover" "othersOn" "[I") (List.mem_cons_of_mem _ mw_121)) (fun _ h9 => h9) rfl dX1_addHerd_45 ?_
        refine lv_aload_n hx hb dX1_addHerd_48 rfl (lv_at hl 1 rfl) ?_
        refine va_get (D := D) (ci := 2) (v := .int (σ 203 j)) (C := RX2) (T := TX2) (N := 8) hx hb hts hu2 hown hK hP (pcD ca h ad pa σ j) (wc_aD hj) rfl 3 (by decide) (hts (.fieldLink RX1 28 "GrazeBook$Drove" "piece" "I") (List.mem_cons_of_mem _ mw_449)) (fun _ h9 => h9) rfl dX1_addHerd_49 ?_
        refine lv_dup2_11 hx hb dX1_addHerd_52 rfl rfl ?_
        refine va_iald_k (k := ((σ 203 j).toNatClampNeg)) (v := (σ 101 ((σ 203 j).toNatClampNeg))) hx hb hK hP 15 0 wc_15 rfl rfl rfl (ix_rng (not_lt0 c_1) c_2 (by decide)) dX1_addHerd_53 ?_
        refine lv_aload_n hx hb dX1_addHerd_54 rfl (lv_at hl 1 rfl) ?_
        have hF := pw_free hD hS hA
        refine va_calli (va_runV (As := []) (rest := [.int (σ 101 ((σ 203 j).toNatClampNeg)), .int (σ 203 j), .ref (ad 101)]) ⟨hx, hb, hml, hown, hts⟩ (k_X2_parts l D ca h ad pa tb σ j H.size hI hj _ rfl) (cwV 0 hts gX1_addHerd_X2_parts rfl rfl rfl (by decide +kernel) ⟨Nat.le_of_ble_eq_true rfl, Nat.le_of_ble_eq_true rfl⟩) ⟨cw_blind, va_recv hK hP (ci := 2) (q0 := (pcD ca h ad pa σ j)) rfl (wc_aD hj), cw_give hP hK hD hZ hS hF⟩ rfl rfl hl.1 rfl (lv_room (Nat.le_of_ble_eq_true rfl)) dX1_addHerd_55 ⟨Nat.le_of_ble_eq_true rfl, Nat.le_of_ble_eq_true rfl⟩) hS (fun q _ h => hF q h) hF (fun r_4 u t H1 locs ht hvm hw hB hz1 hk1 hS => ?_)
        rw [hw]
        obtain ⟨hP, hD⟩ := pw_back hF ht hB
        clear hB hk1 hz1 hF
        generalize H1 = H at hP hS ⊢
        refine lv_iadd hx hb dX1_addHerd_58 ?_
        refine va_iast_k (k := ((σ 203 j).toNatClampNeg)) hx hb hK hP hD hS 15 0 wc_15 rfl rfl (ix_rng (not_lt0 c_1) c_2 (by decide)) dX1_addHerd_59 (fun H locs hP hD hS => ?_)
        rw [wc_s101] at hP hD
        have hI9 : IX (put σ 101 ((σ 203 j).toNatClampNeg) ((σ 101 ((σ 203 j).toNatClampNeg)) + (s_X2_parts σ j))) := hI
        subst hR
        rw [hQ]
        exact W.vret hx hb hr (fun t ht hW => ⟨⟨(), rfl, trivial, ⟨by rw [ht]; exact hP, va_K.moved hW.alike hK, by rw [← hAe]; exact hD⟩, hI9⟩, hS.F ht⟩) hS.2.2 dX1_addHerd_60
      · have hR := (if_pos c_3).symm.trans hR
        refine lv_aload_n hx hb dX1_addHerd_25 rfl (lv_at hl 0 rfl) ?_
        refine va_get (D := D) (ci := 1) (v := .ref (ad 100)) (C := RX1) (T := TX1) (N := 5) hx hb hts hu1 hown hK hP 3 wc_3 rfl 0 (by decide) (hts (.fieldLink RX1 9 "GrazeBook$Cover" "sheepOn" "[I") (List.mem_cons_of_mem _ mw_120)) (fun _ h9 => h9) rfl dX1_addHerd_26 ?_
        refine lv_aload_n hx hb dX1_addHerd_29 rfl (lv_at hl 1 rfl) ?_
        refine va_get (D := D) (ci := 2) (v := .int (σ 203 j)) (C := RX2) (T := TX2) (N := 8) hx hb hts hu2 hown hK hP (pcD ca h ad pa σ j) (wc_aD hj) rfl 3 (by decide) (hts (.fieldLink RX1 28 "GrazeBook$Drove" "piece" "I") (List.mem_cons_of_mem _ mw_449)) (fun _ h9 => h9) rfl dX1_addHerd_30 ?_
        refine lv_dup2_11 hx hb dX1_addHerd_33 rfl rfl ?_
        refine va_iald_k (k := ((σ 203 j).toNatClampNeg)) (v := (σ 100 ((σ 203 j).toNatClampNeg))) hx hb hK hP 14 0 wc_14 rfl rfl rfl (ix_rng (not_lt0 c_1) c_2 (by decide)) dX1_addHerd_34 ?_
        refine lv_aload_n hx hb dX1_addHerd_35 rfl (lv_at hl 1 rfl) ?_
        have hF := pw_free hD hS hA
        refine va_calli (va_runV (As := []) (rest := [.int (σ 100 ((σ 203 j).toNatClampNeg)), .int (σ 203 j), .ref (ad 100)]) ⟨hx, hb, hml, hown, hts⟩ (k_X2_parts l D ca h ad pa tb σ j H.size hI hj _ rfl) (cwV 0 hts gX1_addHerd_X2_parts rfl rfl rfl (by decide +kernel) ⟨Nat.le_of_ble_eq_true rfl, Nat.le_of_ble_eq_true rfl⟩) ⟨cw_blind, va_recv hK hP (ci := 2) (q0 := (pcD ca h ad pa σ j)) rfl (wc_aD hj), cw_give hP hK hD hZ hS hF⟩ rfl rfl hl.1 rfl (lv_room (Nat.le_of_ble_eq_true rfl)) dX1_addHerd_36 ⟨Nat.le_of_ble_eq_true rfl, Nat.le_of_ble_eq_true rfl⟩) hS (fun q _ h => hF q h) hF (fun r_5 u t H1 locs ht hvm hw hB hz1 hk1 hS => ?_)
        rw [hw]
        obtain ⟨hP, hD⟩ := pw_back hF ht hB
        clear hB hk1 hz1 hF
        generalize H1 = H at hP hS ⊢
        refine lv_iadd hx hb dX1_addHerd_39 ?_
        refine va_iast_k (k := ((σ 203 j).toNatClampNeg)) hx hb hK hP hD hS 14 0 wc_14 rfl rfl (ix_rng (not_lt0 c_1) c_2 (by decide)) dX1_addHerd_40 (fun H locs hP hD hS => ?_)
        rw [wc_s100] at hP hD
        refine lv_goto (tgt := 60) hx hb dX1_addHerd_41 (by decide) ?_
        have hI9 : IX (put σ 100 ((σ 203 j).toNatClampNeg) ((σ 100 ((σ 203 j).toNatClampNeg)) + (s_X2_parts σ j))) := hI
        subst hR
        rw [hQ]
        exact W.vret hx hb hr (fun t ht hW => ⟨⟨(), rfl, trivial, ⟨by rw [ht]; exact hP, va_K.moved hW.alike hK, by rw [← hAe]; exact hD⟩, hI9⟩, hS.F ht⟩) hS.2.2 dX1_addHerd_60
    · have hR := (if_neg c_2).symm.trans hR
      have hI9 : IX σ := hI
      subst hR
      rw [hQ]
      exact W.vret hx hb hr (fun t ht hW => ⟨⟨(), rfl, trivial, ⟨by rw [ht]; exact hP, va_K.moved hW.alike hK, by rw [← hAe]; exact hD⟩, hI9⟩, hS.F ht⟩) hS.2.2 dX1_addHerd_16

def s_X1_addRight (σ : St) (i : Nat) (a1 : Int32) : St := (if (σ 0 i) = (2 : Int32) then (put σ 103 0 ((σ 103 0) + a1)) else (if (σ 0 i) = (3 : Int32) then (if (σ 4 i) < (0 : Int32) then σ else (if (6 : Int32) ≤ (σ 4 i) then σ else (put σ 102 ((σ 4 i).toNatClampNeg) ((σ 102 ((σ 4 i).toNatClampNeg)) + a1)))) else (put σ 104 0 ((σ 104 0) + a1))))
theorem fr_s_X1_addRight (σ : St) (i : Nat) (a1 : Int32) {f : Nat} (h102 : f ≠ 102) (h103 : f ≠ 103) (h104 : f ≠ 104) : (s_X1_addRight σ i a1 ) f = σ f := by
  unfold s_X1_addRight
  all_goals ((try dsimp only) <;> ((repeat' split) <;> (try simp only [put_fr, ne_eq, not_false_eq_true, h102, h103, h104])))
set_option maxHeartbeats 1000000 in
set_option maxRecDepth 100000 in
theorem k_X1_addRight (l : Launch) (D : va_G) (ca : Nat → ClassId) (h : Nat) (ad : Nat → Nat) (pa : Nat → Nat → Nat) (tb : Nat) (σ : St) (i : Nat) (a1 : Int32) (sz : Nat) (hI : IX σ) (hi : i < (σ 814 0).toNatClampNeg) (R : St) (hR : s_X1_addRight σ i a1 = R) : Met l yX1_addRight wsX1_addRight ({ frames := 0, cells := 0, slots := 0, locals := 0 }) (va_Pc [.ref (ad 807), .ref (pa 2 i), .int a1] (cw_pre D ca (WC ca h ad pa σ) sz tb)) (va_Qv (fun _ : Unit => True) (fun (_ : Unit) (t : State) => pw_post D ca (WC ca h ad pa σ) sz (WC ca h ad pa R) t ∧ IX R) (va_A (WC ca h ad pa σ) sz)) 0 0 (va_A (WC ca h ad pa σ) sz) := by
  refine Met.ofW (cc := cX1_addRight) (maxL := 3) (ret := none) (by decide) rfl ?_
  intro p e s m args below meth c s₁ B hml hv
  obtain ⟨rfl, ⟨hsz, hP, hK, hD0⟩, hZ⟩ := hv
  have hx := B.exec
  have hb := B.bytes
  have hr := B.returns
  have hts := atoms_spec (ws := wsX1_addRight) B.pre
  have hown : s.vm.findClass RX1 = some m.cls := findClass_of_methodNamed B.named
  have hlocks := B.notSynchronized
  have hu0 : ∀ w ∈ u_ws RX0 TX0 9, w ∈ wsX1_addRight := fun w h => List.mem_cons_of_mem _ (uw0 w h)
  have hu1 : ∀ w ∈ u_ws RX1 TX1 5, w ∈ wsX1_addRight := fun w h => List.mem_cons_of_mem _ (uw1 w h)
  subst hsz
  have hD := hD0.self (sz := s.heap.size)
  obtain ⟨A, hAe⟩ : ∃ A, A = va_A (WC ca h ad pa σ) s.heap.size := ⟨_, rfl⟩
  rw [← hAe] at hD hZ ⊢
  have hA : ∀ q : Nat, s.heap.size ≤ q → A q := fun q h => by rw [hAe]; exact Or.inr h
  have hS : va_S A s.heap s.heap [] := va_S.rf
  have hl := lv_entry ([.ref (ad 807), .ref (pa 2 i), .int a1]) (n := 3) (Nat.le_of_ble_eq_true rfl)
  rw [lg_entry_eq]
  generalize (lg_sl ([.ref (ad 807), .ref (pa 2 i), .int a1]) ++ List.replicate (3 - (lg_sl ([.ref (ad 807), .ref (pa 2 i), .int a1])).length) Slot.unset).toArray = ls at hl ⊢
  have hl : lv_has ls 3 [(0, .ref (ad 807)), (1, .ref (pa 2 i)), (2, .int a1)] := hl
  obtain ⟨H, hH⟩ : ∃ H, H = s.heap := ⟨_, rfl⟩
  have hP : va_P D vwCl (WC ca h ad pa σ) H := by rw [hH]; exact hP
  have hS : va_S A s.heap H [] := by rw [hH]; exact hS
  obtain ⟨QQ, hQ⟩ : ∃ Q9, Q9 = MQ below (va_Qv (fun _ : Unit => True) (fun (_ : Unit) (t : State) => pw_post D ca (WC ca h ad pa σ) s.heap.size (WC ca h ad pa R) t ∧ IX R) A) ([.ref (ad 807), .ref (pa 2 i), .int a1] : List Value).toArray s 0 0 A := ⟨_, rfl⟩
  rw [← hQ]
  show W _ _ _ _ _ _ _ _ _ _ s.heap _ _ _ _ _
  rw [← hH]
  have hR : (if (σ 0 i) = (2 : Int32) then (put σ 103 0 ((σ 103 0) + a1)) else (if (σ 0 i) = (3 : Int32) then (if (σ 4 i) < (0 : Int32) then σ else (if (6 : Int32) ≤ (σ 4 i) then σ else (put σ 102 ((σ 4 i).toNatClampNeg) ((σ 102 ((σ 4 i).toNatClampNeg)) + a1)))) else (put σ 104 0 ((σ 104 0) + a1)))) = R := hR
  refine lv_aload_n hx hb dX1_addRight_0 rfl (lv_at hl 1 rfl) ?_
  refine va_get (D := D) (ci := 0) (v := .int (σ 0 i)) (C := RX0) (T := TX0) (N := 9) hx hb hts hu0 hown hK hP (pcC ca h ad pa σ i) (wc_aC hi) rfl 0 (by decide) (hts (.fieldLink RX1 40 "GrazeBook$Claim" "kind" "I") (List.mem_cons_of_mem _ mw_358)) (fun _ h9 => h9) rfl dX1_addRight_1 ?_
  refine lv_iconst (v := (2 : Int32)) hx hb dX1_addRight_4 (by decide) ?_
  refine lv_icmp_ne (tgt := 21) hx hb dX1_addRight_5 (by decide) (fun c_1 => ?_) (fun c_1 => ?_)
  · have hR := (if_neg c_1).symm.trans hR
    refine lv_aload_n hx hb dX1_addRight_21 rfl (lv_at hl 1 rfl) ?_
    refine va_get (D := D) (ci := 0) (v := .int (σ 0 i)) (C := RX0) (T := TX0) (N := 9) hx hb hts hu0 hown hK hP (pcC ca h ad pa σ i) (wc_aC hi) rfl 0 (by decide) (hts (.fieldLink RX1 40 "GrazeBook$Claim" "kind" "I") (List.mem_cons_of_mem _ mw_358)) (fun _ h9 => h9) rfl dX1_addRight_22 ?_
    refine lv_iconst (v := (3 : Int32)) hx hb dX1_addRight_25 (by decide) ?_
    refine lv_icmp_eq (tgt := 42) hx hb dX1_addRight_26 (by decide) (fun c_2 => ?_) (fun c_2 => ?_)
    · have hR := (if_pos c_2).symm.trans hR
      refine lv_aload_n hx hb dX1_addRight_42 rfl (lv_at hl 1 rfl) ?_
      refine va_get (D := D) (ci := 0) (v := .int (σ 4 i)) (C := RX0) (T := TX0) (N := 9) hx hb hts hu0 hown hK hP (pcC ca h ad pa σ i) (wc_aC hi) rfl 4 (by decide) (hts (.fieldLink RX1 45 "GrazeBook$Claim" "piece" "I") (List.mem_cons_of_mem _ mw_367)) (fun _ h9 => h9) rfl dX1_addRight_43 ?_
      refine lv_if_lt (tgt := 71) hx hb dX1_addRight_46 (by decide) (fun c_3 => ?_) (fun c_3 => ?_)
      · have hR := (if_pos c_3).symm.trans hR
        have hI9 : IX σ := hI
        subst hR
        rw [hQ]
        exact W.vret hx hb hr (fun t ht hW => ⟨⟨(), rfl, trivial, ⟨by rw [ht]; exact hP, va_K.moved hW.alike hK, by rw [← hAe]; exact hD⟩, hI9⟩, hS.F ht⟩) hS.2.2 dX1_addRight_71
      · have hR := (if_neg c_3).symm.trans hR
        refine lv_aload_n hx hb dX1_addRight_49 rfl (lv_at hl 1 rfl) ?_
        refine va_get (D := D) (ci := 0) (v := .int (σ 4 i)) (C := RX0) (T := TX0) (N := 9) hx hb hts hu0 hown hK hP (pcC ca h ad pa σ i) (wc_aC hi) rfl 4 (by decide) (hts (.fieldLink RX1 45 "GrazeBook$Claim" "piece" "I") (List.mem_cons_of_mem _ mw_367)) (fun _ h9 => h9) rfl dX1_addRight_50 ?_
        refine lv_bipush (v := (6 : Int32)) hx hb dX1_addRight_53 (by decide) ?_
        refine lv_icmp_ge (tgt := 71) hx hb dX1_addRight_55 (by decide) (fun c_4 => ?_) (fun c_4 => ?_)
        · have hR := (if_pos c_4).symm.trans hR
          have hI9 : IX σ := hI
          subst hR
          rw [hQ]
          exact W.vret hx hb hr (fun t ht hW => ⟨⟨(), rfl, trivial, ⟨by rw [ht]; exact hP, va_K.moved hW.alike hK, by rw [← hAe]; exact hD⟩, hI9⟩, hS.F ht⟩) hS.2.2 dX1_addRight_71
        · have hR := (if_neg c_4).symm.trans hR
          refine lv_aload_n hx hb dX1_addRight_58 rfl (lv_at hl 0 rfl) ?_
          refine va_get (D := D) (ci := 1) (v := .ref (ad 102)) (C := RX1) (T := TX1) (N := 5) hx hb hts hu1 hown hK hP 3 wc_3 rfl 2 (by decide) (hts (.fieldLink RX1 18 "GrazeBook$Cover" "leazesFor" "[I") (List.mem_cons_of_mem _ mw_122)) (fun _ h9 => h9) rfl dX1_addRight_59 ?_
          refine lv_aload_n hx hb dX1_addRight_62 rfl (lv_at hl 1 rfl) ?_
          refine va_get (D := D) (ci := 0) (v := .int (σ 4 i)) (C := RX0) (T := TX0) (N := 9) hx hb hts hu0 hown hK hP (pcC ca h ad pa σ i) (wc_aC hi) rfl 4 (by decide) (hts (.fieldLink RX1 45 "GrazeBook$Claim" "piece" "I") (List.mem_cons_of_mem _ mw_367)) (fun _ h9 => h9) rfl dX1_addRight_63 ?_
          refine lv_dup2_11 hx hb dX1_addRight_66 rfl rfl ?_
          refine va_iald_k (k := ((σ 4 i).toNatClampNeg)) (v := (σ 102 ((σ 4 i).toNatClampNeg))) hx hb hK hP 16 0 wc_16 rfl rfl rfl (ix_rng (not_lt0 c_3) (lt_of_not_le0 c_4) (by decide)) dX1_addRight_67 ?_
          refine lv_iload_n hx hb dX1_addRight_68 rfl (lv_at hl 2 rfl) ?_
          refine lv_iadd hx hb dX1_addRight_69 ?_
          refine va_iast_k (k := ((σ 4 i).toNatClampNeg)) hx hb hK hP hD hS 16 0 wc_16 rfl rfl (ix_rng (not_lt0 c_3) (lt_of_not_le0 c_4) (by decide)) dX1_addRight_70 (fun H locs hP hD hS => ?_)
          rw [wc_s102] at hP hD
          have hI9 : IX (put σ 102 ((σ 4 i).toNatClampNeg) ((σ 102 ((σ 4 i).toNatClampNeg)) + a1)) := hI
          subst hR
          rw [hQ]
          exact W.vret hx hb hr (fun t ht hW => ⟨⟨(), rfl, trivial, ⟨by rw [ht]; exact hP, va_K.moved hW.alike hK, by rw [← hAe]; exact hD⟩, hI9⟩, hS.F ht⟩) hS.2.2 dX1_addRight_71
    · have hR := (if_neg c_2).symm.trans hR
      refine lv_aload_n hx hb dX1_addRight_29 rfl (lv_at hl 0 rfl) ?_
      refine lv_dup hx hb dX1_addRight_30 rfl ?_
      refine va_get (D := D) (ci := 1) (v := .int (σ 104 0)) (C := RX1) (T := TX1) (N := 5) hx hb hts hu1 hown hK hP 3 wc_3 rfl 4 (by decide) (hts (.fieldLink RX1 25 "GrazeBook$Cover" "forAny" "I") (List.mem_cons_of_mem _ mw_124)) (fun _ h9 => h9) rfl dX1_addRight_31 ?_
      refine lv_iload_n hx hb dX1_addRight_34 rfl (lv_at hl 2 rfl) ?_
      refine lv_iadd hx hb dX1_addRight_35 ?_
      refine va_put (D := D) (ci := 1) (v := .int ((σ 104 0) + a1)) (ty := .int) (C := RX1) (T := TX1) (N := 5) hx hb hts hu1 tyX1 tyX1_ok nmX1 hown hK hP hD hS 3 wc_3 rfl 4 (by decide) (hts (.fieldLink RX1 25 "GrazeBook$Cover" "forAny" "I") (List.mem_cons_of_mem _ mw_124)) (fun _ h9 => h9) rfl (by decide +kernel) rfl rfl (Nat.le_of_ble_eq_true rfl) dX1_addRight_36 (fun H locs hP hD hS => ?_)
      rw [wc_p104] at hP hD
      refine lv_goto (tgt := 71) hx hb dX1_addRight_39 (by decide) ?_
      have hI9 : IX (put σ 104 0 ((σ 104 0) + a1)) := hI
      subst hR
      rw [hQ]
      exact W.vret hx hb hr (fun t ht hW => ⟨⟨(), rfl, trivial, ⟨by rw [ht]; exact hP, va_K.moved hW.alike hK, by rw [← hAe]; exact hD⟩, hI9⟩, hS.F ht⟩) hS.2.2 dX1_addRight_71
  · have hR := (if_pos c_1).symm.trans hR
    refine lv_aload_n hx hb dX1_addRight_8 rfl (lv_at hl 0 rfl) ?_
    refine lv_dup hx hb dX1_addRight_9 rfl ?_
    refine va_get (D := D) (ci := 1) (v := .int (σ 103 0)) (C := RX1) (T := TX1) (N := 5) hx hb hts hu1 hown hK hP 3 wc_3 rfl 3 (by decide) (hts (.fieldLink RX1 21 "GrazeBook$Cover" "walks" "I") (List.mem_cons_of_mem _ mw_123)) (fun _ h9 => h9) rfl dX1_addRight_10 ?_
    refine lv_iload_n hx hb dX1_addRight_13 rfl (lv_at hl 2 rfl) ?_
    refine lv_iadd hx hb dX1_addRight_14 ?_
    refine va_put (D := D) (ci := 1) (v := .int ((σ 103 0) + a1)) (ty := .int) (C := RX1) (T := TX1) (N := 5) hx hb hts hu1 tyX1 tyX1_ok nmX1 hown hK hP hD hS 3 wc_3 rfl 3 (by decide) (hts (.fieldLink RX1 21 "GrazeBook$Cover" "walks" "I") (List.mem_cons_of_mem _ mw_123)) (fun _ h9 => h9) rfl (by decide +kernel) rfl rfl (Nat.le_of_ble_eq_true rfl) dX1_addRight_15 (fun H locs hP hD hS => ?_)
    rw [wc_p103] at hP hD
    refine lv_goto (tgt := 71) hx hb dX1_addRight_18 (by decide) ?_
    have hI9 : IX (put σ 103 0 ((σ 103 0) + a1)) := hI
    subst hR
    rw [hQ]
    exact W.vret hx hb hr (fun t ht hW => ⟨⟨(), rfl, trivial, ⟨by rw [ht]; exact hP, va_K.moved hW.alike hK, by rw [← hAe]; exact hD⟩, hI9⟩, hS.F ht⟩) hS.2.2 dX1_addRight_71

def s_X1_lack_c6 (σ : St) : (Int32 × Int32) → Int32 := fun x9 => match x9 with
  | (v2_1, v1_1) => (if (0 : Int32) < ((v1_1 + (if (0 : Int32) < (v2_1 - (σ 103 0)) then (v2_1 - (σ 103 0)) else (0 : Int32))) - (σ 104 0)) then ((v1_1 + (if (0 : Int32) < (v2_1 - (σ 103 0)) then (v2_1 - (σ 103 0)) else (0 : Int32))) - (σ 104 0)) else (0 : Int32))
def s_X1_lack_l6 (σ : St) (k_1 : Nat) : (Int32 × Int32) → (Int32 × Int32) := fun x9 => match x9 with
  | (v2_1, v1_1) => ((v2_1 + (if (0 : Int32) < ((σ 100 k_1) - (if (0 : Int32) < ((σ 102 k_1) - (σ 101 k_1)) then ((σ 102 k_1) - (σ 101 k_1)) else (0 : Int32))) then ((σ 100 k_1) - (if (0 : Int32) < ((σ 102 k_1) - (σ 101 k_1)) then ((σ 102 k_1) - (σ 101 k_1)) else (0 : Int32))) else (0 : Int32))), (v1_1 + (if (0 : Int32) < ((σ 101 k_1) - (σ 102 k_1)) then ((σ 101 k_1) - (σ 102 k_1)) else (0 : Int32))))
def s_X1_lack (σ : St) : Int32 := (s_X1_lack_c6 σ (iter (s_X1_lack_l6 σ) ((6 : Int32).toNatClampNeg - 0) 0 ((0 : Int32), (0 : Int32))))
set_option maxHeartbeats 1000000 in
set_option maxRecDepth 100000 in
theorem k_X1_lack (l : Launch) (D : va_G) (ca : Nat → ClassId) (h : Nat) (ad : Nat → Nat) (pa : Nat → Nat → Nat) (tb : Nat) (σ : St) (sz : Nat) (hI : IX σ)  (R : Int32) (hR : s_X1_lack σ = R) : Met l yX1_lack wsX1_lack ({ frames := 1, cells := 0, slots := 0, locals := 15 }) (va_Pc [.ref (ad 807)] (cw_pre D ca (WC ca h ad pa σ) sz tb)) (va_Qi (fun (r : Int32) (_ : Unit) => r = R) (fun (_ : Unit) (t : State) => pw_post D ca (WC ca h ad pa σ) sz (WC ca h ad pa σ) t) (va_A (WC ca h ad pa σ) sz)) 0 0 (va_A (WC ca h ad pa σ) sz) := by
  refine Met.ofW (cc := cX1_lack) (maxL := 5) (ret := (some .int)) (by decide) rfl ?_
  intro p e s m args below meth c s₁ B hml hv
  obtain ⟨rfl, ⟨hsz, hP, hK, hD0⟩, hZ⟩ := hv
  have hx := B.exec
  have hb := B.bytes
  have hr := B.returns
  have hts := atoms_spec (ws := wsX1_lack) B.pre
  have hown : s.vm.findClass RX1 = some m.cls := findClass_of_methodNamed B.named
  have hlocks := B.notSynchronized
  have hu1 : ∀ w ∈ u_ws RX1 TX1 5, w ∈ wsX1_lack := fun w h => List.mem_cons_of_mem _ (uw1 w h)
  subst hsz
  have hD := hD0.self (sz := s.heap.size)
  obtain ⟨A, hAe⟩ : ∃ A, A = va_A (WC ca h ad pa σ) s.heap.size := ⟨_, rfl⟩
  rw [← hAe] at hD hZ ⊢
  have hA : ∀ q : Nat, s.heap.size ≤ q → A q := fun q h => by rw [hAe]; exact Or.inr h
  have hS : va_S A s.heap s.heap [] := va_S.rf
  have hl := lv_entry ([.ref (ad 807)]) (n := 5) (Nat.le_of_ble_eq_true rfl)
  rw [lg_entry_eq]
  generalize (lg_sl ([.ref (ad 807)]) ++ List.replicate (5 - (lg_sl ([.ref (ad 807)])).length) Slot.unset).toArray = ls at hl ⊢
  have hl : lv_has ls 5 [(0, .ref (ad 807))] := hl
  obtain ⟨H, hH⟩ : ∃ H, H = s.heap := ⟨_, rfl⟩
  have hP : va_P D vwCl (WC ca h ad pa σ) H := by rw [hH]; exact hP
  have hS : va_S A s.heap H [] := by rw [hH]; exact hS
  obtain ⟨QQ, hQ⟩ : ∃ Q9, Q9 = MQ below (va_Qi (fun (r : Int32) (_ : Unit) => r = R) (fun (_ : Unit) (t : State) => pw_post D ca (WC ca h ad pa σ) s.heap.size (WC ca h ad pa σ) t) A) ([.ref (ad 807)] : List Value).toArray s 0 0 A := ⟨_, rfl⟩
  rw [← hQ]
  show W _ _ _ _ _ _ _ _ _ _ s.heap _ _ _ _ _
  rw [← hH]
  have hR : (s_X1_lack_c6 σ (iter (s_X1_lack_l6 σ) ((6 : Int32).toNatClampNeg - 0) 0 ((0 : Int32), (0 : Int32)))) = R := hR
  refine lv_iconst (v := (0 : Int32)) hx hb dX1_lack_0 (by decide) ?_
  refine lv_istore_n (lv' := [(1, .int (0 : Int32)), (0, .ref (ad 807))]) hx hb dX1_lack_1 rfl hl (by decide) rfl (fun ls hl => ?_)
  refine lv_iconst (v := (0 : Int32)) hx hb dX1_lack_2 (by decide) ?_
  refine lv_istore_n (lv' := [(2, .int (0 : Int32)), (1, .int (0 : Int32)), (0, .ref (ad 807))]) hx hb dX1_lack_3 rfl hl (by decide) rfl (fun ls hl => ?_)
  refine lv_iconst (v := (0 : Int32)) hx hb dX1_lack_4 (by decide) ?_
  refine lv_istore_n (lv' := [(3, .int (0 : Int32)), (2, .int (0 : Int32)), (1, .int (0 : Int32)), (0, .ref (ad 807))]) hx hb dX1_lack_5 rfl hl (by decide) rfl (fun ls hl => ?_)
  have hE_1 : ∀ (v2_1 : Int32) (v1_1 : Int32) (H : Heap) (locs : List Loc) (ls : Array Slot), s_X1_lack_c6 σ (v2_1, v1_1) = R → va_P D vwCl (WC ca h ad pa σ) H → va_D A (WC ca h ad pa σ) → va_S A s.heap H locs → lv_has ls 5 [(2, .int v2_1), (1, .int v1_1), (0, .ref (ad 807))] → W p l e ((headSpec wsX1_lack ({ frames := 1, cells := 0, slots := 0, locals := 15 })).room) s m ([.ref (ad 807)] : List Value).toArray below meth c H locs 0 0 QQ (F0 m 73 ls []) := by
    intro v2_1 v1_1 H locs ls hR hP hD hS hl
    have hR : (if (0 : Int32) < ((v1_1 + (if (0 : Int32) < (v2_1 - (σ 103 0)) then (v2_1 - (σ 103 0)) else (0 : Int32))) - (σ 104 0)) then ((v1_1 + (if (0 : Int32) < (v2_1 - (σ 103 0)) then (v2_1 - (σ 103 0)) else (0 : Int32))) - (σ 104 0)) else (0 : Int32)) = R := hR
    refine lv_iconst (v := (0 : Int32)) hx hb dX1_lack_73 (by decide) ?_
    refine lv_iload_n hx hb dX1_lack_74 rfl (lv_at hl 1 rfl) ?_
    refine lv_iconst (v := (0 : Int32)) hx hb dX1_lack_75 (by decide) ?_
    refine lv_iload_n hx hb dX1_lack_76 rfl (lv_at hl 0 rfl) ?_
    refine lv_aload_n hx hb dX1_lack_77 rfl (lv_at hl 2 rfl) ?_
    refine va_get (D := D) (ci := 1) (v := .int (σ 103 0)) (C := RX1) (T := TX1) (N := 5) hx hb hts hu1 hown hK hP 3 wc_3 rfl 3 (by decide) (hts (.fieldLink RX1 21 "GrazeBook$Cover" "walks" "I") (List.mem_cons_of_mem _ mw_123)) (fun _ h9 => h9) rfl dX1_lack_78 ?_
    refine lv_isub hx hb dX1_lack_81 ?_
    refine va_mmax hx hb (hml.trans hl.1.symm) hown (hts (.methodLink RX1 46 Lib.Math.max.name) (List.mem_cons_of_mem _ mw_519)) (hts (.static Lib.Math.max.name) (List.mem_cons_of_mem _ mw_520)) (hts (.initialized "java/lang/Math") (List.mem_cons_of_mem _ mw_68)) (hts (.code Lib.Math.max.name Lib.Math.max.code 2 (some .int)) (List.mem_cons_of_mem _ mw_521)) (Nat.le_of_ble_eq_true rfl) (Nat.le_of_ble_eq_true rfl) (Nat.le_of_ble_eq_true rfl) (Nat.le_of_ble_eq_true rfl) dX1_lack_82 ?_
    refine lv_iadd hx hb dX1_lack_85 ?_
    refine lv_aload_n hx hb dX1_lack_86 rfl (lv_at hl 2 rfl) ?_
    refine va_get (D := D) (ci := 1) (v := .int (σ 104 0)) (C := RX1) (T := TX1) (N := 5) hx hb hts hu1 hown hK hP 3 wc_3 rfl 4 (by decide) (hts (.fieldLink RX1 25 "GrazeBook$Cover" "forAny" "I") (List.mem_cons_of_mem _ mw_124)) (fun _ h9 => h9) rfl dX1_lack_87 ?_
    refine lv_isub hx hb dX1_lack_90 ?_
    refine va_mmax hx hb (hml.trans hl.1.symm) hown (hts (.methodLink RX1 46 Lib.Math.max.name) (List.mem_cons_of_mem _ mw_519)) (hts (.static Lib.Math.max.name) (List.mem_cons_of_mem _ mw_520)) (hts (.initialized "java/lang/Math") (List.mem_cons_of_mem _ mw_68)) (hts (.code Lib.Math.max.name Lib.Math.max.code 2 (some .int)) (List.mem_cons_of_mem _ mw_521)) (Nat.le_of_ble_eq_true rfl) (Nat.le_of_ble_eq_true rfl) (Nat.le_of_ble_eq_true rfl) (Nat.le_of_ble_eq_true rfl) dX1_lack_91 ?_
    subst hR
    rw [hQ]
    exact W.iret (v := (if (0 : Int32) < ((v1_1 + (if (0 : Int32) < (v2_1 - (σ 103 0)) then (v2_1 - (σ 103 0)) else (0 : Int32))) - (σ 104 0)) then ((v1_1 + (if (0 : Int32) < (v2_1 - (σ 103 0)) then (v2_1 - (σ 103 0)) else (0 : Int32))) - (σ 104 0)) else (0 : Int32))) hx hb hr (fun t ht hW => ⟨⟨(if (0 : Int32) < ((v1_1 + (if (0 : Int32) < (v2_1 - (σ 103 0)) then (v2_1 - (σ 103 0)) else (0 : Int32))) - (σ 104 0)) then ((v1_1 + (if (0 : Int32) < (v2_1 - (σ 103 0)) then (v2_1 - (σ 103 0)) else (0 : Int32))) - (σ 104 0)) else (0 : Int32)), (), rfl, rfl, ⟨by rw [ht]; exact hP, va_K.moved hW.alike hK, by rw [← hAe]; exact hD⟩⟩, hS.F ht⟩) hS.2.2 dX1_lack_94
  have hL_1 : ∀ (n k_1 : Nat) (v2_1 : Int32) (v1_1 : Int32) (hk_1 : lpk (6 : Int32) k_1 n) (H : Heap) (locs : List Loc) (ls : Array Slot), s_X1_lack_c6 σ (iter (s_X1_lack_l6 σ) n k_1 (v2_1, v1_1)) = R → va_P D vwCl (WC ca h ad pa σ) H → va_D A (WC ca h ad pa σ) → va_S A s.heap H locs → lv_has ls 5 [(3, .int (nI k_1)), (2, .int v2_1), (1, .int v1_1), (0, .ref (ad 807))] → W p l e ((headSpec wsX1_lack ({ frames := 1, cells := 0, slots := 0, locals := 15 })).room) s m ([.ref (ad 807)] : List Value).toArray below meth c H locs 0 0 QQ (F0 m 6 ls []) := by
    intro n
    induction n with
    | zero =>
      intro k_1 v2_1 v1_1 hk_1 H locs ls hR hP hD hS hl
      refine lv_iload_n hx hb dX1_lack_6 rfl (lv_at hl 0 rfl) ?_
      refine lv_bipush (v := (6 : Int32)) hx hb dX1_lack_7 (by decide) ?_
      refine lv_icmp_ge (tgt := 73) hx hb dX1_lack_9 (by decide) (fun _ => ?_) (fun c_2 => absurd (ge_end hk_1) c_2)
      exact hE_1 v2_1 v1_1 _ _ _ hR hP hD hS (lv_sub hl [1, 2, 3] rfl)
    | succ n ih =>
      intro k_1 v2_1 v1_1 hk_1 H locs ls hR hP hD hS hl
      obtain ⟨S_1, hB_1⟩ : ∃ s9, s_X1_lack_l6 σ k_1 (v2_1, v1_1) = s9 := ⟨_, rfl⟩
      have hR : s_X1_lack_c6 σ (iter (s_X1_lack_l6 σ) n (k_1 + 1) S_1) = R := by rw [← hB_1]; exact hR
      have hB_1 : ((v2_1 + (if (0 : Int32) < ((σ 100 k_1) - (if (0 : Int32) < ((σ 102 k_1) - (σ 101 k_1)) then ((σ 102 k_1) - (σ 101 k_1)) else (0 : Int32))) then ((σ 100 k_1) - (if (0 : Int32) < ((σ 102 k_1) - (σ 101 k_1)) then ((σ 102 k_1) - (σ 101 k_1)) else (0 : Int32))) else (0 : Int32))), (v1_1 + (if (0 : Int32) < ((σ 101 k_1) - (σ 102 k_1)) then ((σ 101 k_1) - (σ 102 k_1)) else (0 : Int32)))) = S_1 := hB_1
      refine lv_iload_n hx hb dX1_lack_6 rfl (lv_at hl 0 rfl) ?_
      refine lv_bipush (v := (6 : Int32)) hx hb dX1_lack_7 (by decide) ?_
      refine lv_icmp_ge (tgt := 73) hx hb dX1_lack_9 (by decide) (fun c_3 => absurd c_3 (ge_go hk_1)) (fun _ => ?_)
      refine lv_iconst (v := (0 : Int32)) hx hb dX1_lack_12 (by decide) ?_
      refine lv_aload_n hx hb dX1_lack_13 rfl (lv_at hl 3 rfl) ?_
      refine va_get (D := D) (ci := 1) (v := .ref (ad 102)) (C := RX1) (T := TX1) (N := 5) hx hb hts hu1 hown hK hP 3 wc_3 rfl 2 (by decide) (hts (.fieldLink RX1 18 "GrazeBook$Cover" "leazesFor" "[I") (List.mem_cons_of_mem _ mw_122)) (fun _ h9 => h9) rfl dX1_lack_14 ?_
      refine lv_iload_n hx hb dX1_lack_17 rfl (lv_at hl 0 rfl) ?_
      refine va_iald_k (k := k_1) (v := (σ 102 k_1)) hx hb hK hP 16 0 wc_16 rfl (ix_cl hk_1) rfl (ix_loop (N := 6) hk_1 (show 0 ≤ (6 : Int32).toInt ∧ (6 : Int32).toInt ≤ ((6 : Nat) : Int) by decide) (by decide) (by decide)) dX1_lack_18 ?_
      refine lv_aload_n hx hb dX1_lack_19 rfl (lv_at hl 3 rfl) ?_
      refine va_get (D := D) (ci := 1) (v := .ref (ad 101)) (C := RX1) (T := TX1) (N := 5) hx hb hts hu1 hown hK hP 3 wc_3 rfl 1 (by decide) (hts (.fieldLink RX1 15 "GrazeBook$Cover" "othersOn" "[I") (List.mem_cons_of_mem _ mw_121)) (fun _ h9 => h9) rfl dX1_lack_20 ?_
      refine lv_iload_n hx hb dX1_lack_23 rfl (lv_at hl 0 rfl) ?_
      refine va_iald_k (k := k_1) (v := (σ 101 k_1)) hx hb hK hP 15 0 wc_15 rfl (ix_cl hk_1) rfl (ix_loop (N := 6) hk_1 (show 0 ≤ (6 : Int32).toInt ∧ (6 : Int32).toInt ≤ ((6 : Nat) : Int) by decide) (by decide) (by decide)) dX1_lack_24 ?_
      refine lv_isub hx hb dX1_lack_25 ?_
      refine va_mmax hx hb (hml.trans hl.1.symm) hown (hts (.methodLink RX1 46 Lib.Math.max.name) (List.mem_cons_of_mem _ mw_519)) (hts (.static Lib.Math.max.name) (List.mem_cons_of_mem _ mw_520)) (hts (.initialized "java/lang/Math") (List.mem_cons_of_mem _ mw_68)) (hts (.code Lib.Math.max.name Lib.Math.max.code 2 (some .int)) (List.mem_cons_of_mem _ mw_521)) (Nat.le_of_ble_eq_true rfl) (Nat.le_of_ble_eq_true rfl) (Nat.le_of_ble_eq_true rfl) (Nat.le_of_ble_eq_true rfl) dX1_lack_26 ?_
      refine lv_istore (lv' := [(4, .int (if (0 : Int32) < ((σ 102 k_1) - (σ 101 k_1)) then ((σ 102 k_1) - (σ 101 k_1)) else (0 : Int32))), (3, .int (nI k_1)), (2, .int v2_1), (1, .int v1_1), (0, .ref (ad 807))]) hx hb dX1_lack_29 hl (by decide) rfl (fun ls hl => ?_)
      refine lv_iload_n hx hb dX1_lack_31 rfl (lv_at hl 3 rfl) ?_
      refine lv_iconst (v := (0 : Int32)) hx hb dX1_lack_32 (by decide) ?_
      refine lv_aload_n hx hb dX1_lack_33 rfl (lv_at hl 4 rfl) ?_
      refine va_get (D := D) (ci := 1) (v := .ref (ad 101)) (C := RX1) (T := TX1) (N := 5) hx hb hts hu1 hown hK hP 3 wc_3 rfl 1 (by decide) (hts (.fieldLink RX1 15 "GrazeBook$Cover" "othersOn" "[I") (List.mem_cons_of_mem _ mw_121)) (fun _ h9 => h9) rfl dX1_lack_34 ?_
      refine lv_iload_n hx hb dX1_lack_37 rfl (lv_at hl 1 rfl) ?_
      refine va_iald_k (k := k_1) (v := (σ 101 k_1)) hx hb hK hP 15 0 wc_15 rfl (ix_cl hk_1) rfl (ix_loop (N := 6) hk_1 (show 0 ≤ (6 : Int32).toInt ∧ (6 : Int32).toInt ≤ ((6 : Nat) : Int) by decide) (by decide) (by decide)) dX1_lack_38 ?_
      refine lv_aload_n hx hb dX1_lack_39 rfl (lv_at hl 4 rfl) ?_
      refine va_get (D := D) (ci := 1) (v := .ref (ad 102)) (C := RX1) (T := TX1) (N := 5) hx hb hts hu1 hown hK hP 3 wc_3 rfl 2 (by decide) (hts (.fieldLink RX1 18 "GrazeBook$Cover" "leazesFor" "[I") (List.mem_cons_of_mem _ mw_122)) (fun _ h9 => h9) rfl dX1_lack_40 ?_
      refine lv_iload_n hx hb dX1_lack_43 rfl (lv_at hl 1 rfl) ?_
      refine va_iald_k (k := k_1) (v := (σ 102 k_1)) hx hb hK hP 16 0 wc_16 rfl (ix_cl hk_1) rfl (ix_loop (N := 6) hk_1 (show 0 ≤ (6 : Int32).toInt ∧ (6 : Int32).toInt ≤ ((6 : Nat) : Int) by decide) (by decide) (by decide)) dX1_lack_44 ?_
      refine lv_isub hx hb dX1_lack_45 ?_
      refine va_mmax hx hb (hml.trans hl.1.symm) hown (hts (.methodLink RX1 46 Lib.Math.max.name) (List.mem_cons_of_mem _ mw_519)) (hts (.static Lib.Math.max.name) (List.mem_cons_of_mem _ mw_520)) (hts (.initialized "java/lang/Math") (List.mem_cons_of_mem _ mw_68)) (hts (.code Lib.Math.max.name Lib.Math.max.code 2 (some .int)) (List.mem_cons_of_mem _ mw_521)) (Nat.le_of_ble_eq_true rfl) (Nat.le_of_ble_eq_true rfl) (Nat.le_of_ble_eq_true rfl) (Nat.le_of_ble_eq_true rfl) dX1_lack_46 ?_
      refine lv_iadd hx hb dX1_lack_49 ?_
      refine lv_istore_n (lv' := [(1, .int (v1_1 + (if (0 : Int32) < ((σ 101 k_1) - (σ 102 k_1)) then ((σ 101 k_1) - (σ 102 k_1)) else (0 : Int32)))), (4, .int (if (0 : Int32) < ((σ 102 k_1) - (σ 101 k_1)) then ((σ 102 k_1) - (σ 101 k_1)) else (0 : Int32))), (3, .int (nI k_1)), (2, .int v2_1), (0, .ref (ad 807))]) hx hb dX1_lack_50 rfl hl (by decide) rfl (fun ls hl => ?_)
      refine lv_iload_n hx hb dX1_lack_51 rfl (lv_at hl 3 rfl) ?_
      refine lv_iconst (v := (0 : Int32)) hx hb dX1_lack_52 (by decide) ?_
      refine lv_aload_n hx hb dX1_lack_53 rfl (lv_at hl 4 rfl) ?_
      refine va_get (D := D) (ci := 1) (v := .ref (ad 100)) (C := RX1) (T := TX1) (N := 5) hx hb hts hu1 hown hK hP 3 wc_3 rfl 0 (by decide) (hts (.fieldLink RX1 9 "GrazeBook$Cover" "sheepOn" "[I") (List.mem_cons_of_mem _ mw_120)) (fun _ h9 => h9) rfl dX1_lack_54 ?_
      refine lv_iload_n hx hb dX1_lack_57 rfl (lv_at hl 2 rfl) ?_
      refine va_iald_k (k := k_1) (v := (σ 100 k_1)) hx hb hK hP 14 0 wc_14 rfl (ix_cl hk_1) rfl (ix_loop (N := 6) hk_1 (show 0 ≤ (6 : Int32).toInt ∧ (6 : Int32).toInt ≤ ((6 : Nat) : Int) by decide) (by decide) (by decide)) dX1_lack_58 ?_
      refine lv_iload hx hb dX1_lack_59 (lv_at hl 1 rfl) ?_
      refine lv_isub hx hb dX1_lack_61 ?_
      refine va_mmax hx hb (hml.trans hl.1.symm) hown (hts (.methodLink RX1 46 Lib.Math.max.name) (List.mem_cons_of_mem _ mw_519)) (hts (.static Lib.Math.max.name) (List.mem_cons_of_mem _ mw_520)) (hts (.initialized "java/lang/Math") (List.mem_cons_of_mem _ mw_68)) (hts (.code Lib.Math.max.name Lib.Math.max.code 2 (some .int)) (List.mem_cons_of_mem _ mw_521)) (Nat.le_of_ble_eq_true rfl) (Nat.le_of_ble_eq_true rfl) (Nat.le_of_ble_eq_true rfl) (Nat.le_of_ble_eq_true rfl) dX1_lack_62 ?_
      refine lv_iadd hx hb dX1_lack_65 ?_
      refine lv_istore_n (lv' := [(2, .int (v2_1 + (if (0 : Int32) < ((σ 100 k_1) - (if (0 : Int32) < ((σ 102 k_1) - (σ 101 k_1)) then ((σ 102 k_1) - (σ 101 k_1)) else (0 : Int32))) then ((σ 100 k_1) - (if (0 : Int32) < ((σ 102 k_1) - (σ 101 k_1)) then ((σ 102 k_1) - (σ 101 k_1)) else (0 : Int32))) else (0 : Int32)))), (1, .int (v1_1 + (if (0 : Int32) < ((σ 101 k_1) - (σ 102 k_1)) then ((σ 101 k_1) - (σ 102 k_1)) else (0 : Int32)))), (4, .int (if (0 : Int32) < ((σ 102 k_1) - (σ 101 k_1)) then ((σ 102 k_1) - (σ 101 k_1)) else (0 : Int32))), (3, .int (nI k_1)), (0, .ref (ad 807))]) hx hb dX1_lack_66 rfl hl (by decide) rfl (fun ls hl => ?_)
      refine lv_iinc (v := (nI (k_1 + 1))) (lv' := [(3, .int (nI (k_1 + 1))), (2, .int (v2_1 + (if (0 : Int32) < ((σ 100 k_1) - (if (0 : Int32) < ((σ 102 k_1) - (σ 101 k_1)) then ((σ 102 k_1) - (σ 101 k_1)) else (0 : Int32))) then ((σ 100 k_1) - (if (0 : Int32) < ((σ 102 k_1) - (σ 101 k_1)) then ((σ 102 k_1) - (σ 101 k_1)) else (0 : Int32))) else (0 : Int32)))), (1, .int (v1_1 + (if (0 : Int32) < ((σ 101 k_1) - (σ 102 k_1)) then ((σ 101 k_1) - (σ 102 k_1)) else (0 : Int32)))), (4, .int (if (0 : Int32) < ((σ 102 k_1) - (σ 101 k_1)) then ((σ 102 k_1) - (σ 101 k_1)) else (0 : Int32))), (0, .ref (ad 807))]) hx hb dX1_lack_67 hl (k := 3) rfl (by rw [show Int32.ofInt 1 = 1 from by decide]; exact nI_1 _) (by decide) rfl (fun ls hl => ?_)
      refine lv_goto (tgt := 6) hx hb dX1_lack_70 (by decide) ?_
      subst hB_1
      exact ih (k_1 + 1) (v2_1 + (if (0 : Int32) < ((σ 100 k_1) - (if (0 : Int32) < ((σ 102 k_1) - (σ 101 k_1)) then ((σ 102 k_1) - (σ 101 k_1)) else (0 : Int32))) then ((σ 100 k_1) - (if (0 : Int32) < ((σ 102 k_1) - (σ 101 k_1)) then ((σ 102 k_1) - (σ 101 k_1)) else (0 : Int32))) else (0 : Int32))) (v1_1 + (if (0 : Int32) < ((σ 101 k_1) - (σ 102 k_1)) then ((σ 101 k_1) - (σ 102 k_1)) else (0 : Int32))) (ge_next hk_1)  _ _ _ hR hP hD hS (lv_sub hl [0, 1, 2, 4] rfl)
  exact hL_1 _ 0 (0 : Int32) (0 : Int32) ⟨rfl, by decide⟩  _ _ _ hR hP hD hS (lv_sub hl [0, 1, 2, 3] rfl)

def s_X1_partsOut_c4  : Int32 → Int32 := fun x9 => match x9 with
  | v1_1 => v1_1
def s_X1_partsOut_l4 (σ : St) (k_1 : Nat) : Int32 → Int32 := fun x9 => match x9 with
  | v1_1 => (v1_1 + ((σ 100 k_1) + (σ 101 k_1)))
def s_X1_partsOut (σ : St) : Int32 := (s_X1_partsOut_c4 (iter (s_X1_partsOut_l4 σ) ((6 : Int32).toNatClampNeg - 0) 0 (0 : Int32)))
set_option maxHeartbeats 1000000 in
set_option maxRecDepth 100000 in
theorem k_X1_partsOut (l : Launch) (D : va_G) (ca : Nat → ClassId) (h : Nat) (ad : Nat → Nat) (pa : Nat → Nat → Nat) (tb : Nat) (σ : St) (sz : Nat) (hI : IX σ)  (R : Int32) (hR : s_X1_partsOut σ = R) : Met l yX1_partsOut wsX1_partsOut ({ frames := 0, cells := 0, slots := 0, locals := 0 }) (va_Pc [.ref (ad 807)] (cw_pre D ca (WC ca h ad pa σ) sz tb)) (va_Qi (fun (r : Int32) (_ : Unit) => r = R) (fun (_ : Unit) (t : State) => pw_post D ca (WC ca h ad pa σ) sz (WC ca h ad pa σ) t) (va_A (WC ca h ad pa σ) sz)) 0 0 (va_A (WC ca h ad pa σ) sz) := by
  refine Met.ofW (cc := cX1_partsOut) (maxL := 3) (ret := (some .int)) (by decide) rfl ?_
  intro p e s m args below meth c s₁ B hml hv
  obtain ⟨rfl, ⟨hsz, hP, hK, hD0⟩, hZ⟩ := hv
  have hx := B.exec
  have hb := B.bytes
  have hr := B.returns
  have hts := atoms_spec (ws := wsX1_partsOut) B.pre
  have hown : s.vm.findClass RX1 = some m.cls := findClass_of_methodNamed B.named
  have hlocks := B.notSynchronized
  have hu1 : ∀ w ∈ u_ws RX1 TX1 5, w ∈ wsX1_partsOut := fun w h => List.mem_cons_of_mem _ (uw1 w h)
  subst hsz
  have hD := hD0.self (sz := s.heap.size)
  obtain ⟨A, hAe⟩ : ∃ A, A = va_A (WC ca h ad pa σ) s.heap.size := ⟨_, rfl⟩
  rw [← hAe] at hD hZ ⊢
  have hA : ∀ q : Nat, s.heap.size ≤ q → A q := fun q h => by rw [hAe]; exact Or.inr h
  have hS : va_S A s.heap s.heap [] := va_S.rf
  have hl := lv_entry ([.ref (ad 807)]) (n := 3) (Nat.le_of_ble_eq_true rfl)
  rw [lg_entry_eq]
  generalize (lg_sl ([.ref (ad 807)]) ++ List.replicate (3 - (lg_sl ([.ref (ad 807)])).length) Slot.unset).toArray = ls at hl ⊢
  have hl : lv_has ls 3 [(0, .ref (ad 807))] := hl
  obtain ⟨H, hH⟩ : ∃ H, H = s.heap := ⟨_, rfl⟩
  have hP : va_P D vwCl (WC ca h ad pa σ) H := by rw [hH]; exact hP
  have hS : va_S A s.heap H [] := by rw [hH]; exact hS
  obtain ⟨QQ, hQ⟩ : ∃ Q9, Q9 = MQ below (va_Qi (fun (r : Int32) (_ : Unit) => r = R) (fun (_ : Unit) (t : State) => pw_post D ca (WC ca h ad pa σ) s.heap.size (WC ca h ad pa σ) t) A) ([.ref (ad 807)] : List Value).toArray s 0 0 A := ⟨_, rfl⟩
  rw [← hQ]
  show W _ _ _ _ _ _ _ _ _ _ s.heap _ _ _ _ _
  rw [← hH]
  have hR : (s_X1_partsOut_c4 (iter (s_X1_partsOut_l4 σ) ((6 : Int32).toNatClampNeg - 0) 0 (0 : Int32))) = R := hR
  refine lv_iconst (v := (0 : Int32)) hx hb dX1_partsOut_0 (by decide) ?_
  refine lv_istore_n (lv' := [(1, .int (0 : Int32)), (0, .ref (ad 807))]) hx hb dX1_partsOut_1 rfl hl (by decide) rfl (fun ls hl => ?_)
  refine lv_iconst (v := (0 : Int32)) hx hb dX1_partsOut_2 (by decide) ?_
  refine lv_istore_n (lv' := [(2, .int (0 : Int32)), (1, .int (0 : Int32)), (0, .ref (ad 807))]) hx hb dX1_partsOut_3 rfl hl (by decide) rfl (fun ls hl => ?_)
  have hE_1 : ∀ (v1_1 : Int32) (H : Heap) (locs : List Loc) (ls : Array Slot), s_X1_partsOut_c4 v1_1 = R → va_P D vwCl (WC ca h ad pa σ) H → va_D A (WC ca h ad pa σ) → va_S A s.heap H locs → lv_has ls 3 [(1, .int v1_1)] → W p l e ((headSpec wsX1_partsOut ({ frames := 0, cells := 0, slots := 0, locals := 0 })).room) s m ([.ref (ad 807)] : List Value).toArray below meth c H locs 0 0 QQ (F0 m 32 ls []) := by
    intro v1_1 H locs ls hR hP hD hS hl
    have hR : v1_1 = R := hR
    refine lv_iload_n hx hb dX1_partsOut_32 rfl (lv_at hl 0 rfl) ?_
    subst hR
    rw [hQ]
    exact W.iret (v := v1_1) hx hb hr (fun t ht hW => ⟨⟨v1_1, (), rfl, rfl, ⟨by rw [ht]; exact hP, va_K.moved hW.alike hK, by rw [← hAe]; exact hD⟩⟩, hS.F ht⟩) hS.2.2 dX1_partsOut_33
  have hL_1 : ∀ (n k_1 : Nat) (v1_1 : Int32) (hk_1 : lpk (6 : Int32) k_1 n) (H : Heap) (locs : List Loc) (ls : Array Slot), s_X1_partsOut_c4 (iter (s_X1_partsOut_l4 σ) n k_1 v1_1) = R → va_P D vwCl (WC ca h ad pa σ) H → va_D A (WC ca h ad pa σ) → va_S A s.heap H locs → lv_has ls 3 [(2, .int (nI k_1)), (1, .int v1_1), (0, .ref (ad 807))] → W p l e ((headSpec wsX1_partsOut ({ frames := 0, cells := 0, slots := 0, locals := 0 })).room) s m ([.ref (ad 807)] : List Value).toArray below meth c H locs 0 0 QQ (F0 m 4 ls []) := by
    intro n
    induction n with
    | zero =>
      intro k_1 v1_1 hk_1 H locs ls hR hP hD hS hl
      refine lv_iload_n hx hb dX1_partsOut_4 rfl (lv_at hl 0 rfl) ?_
      refine lv_bipush (v := (6 : Int32)) hx hb dX1_partsOut_5 (by decide) ?_
      refine lv_icmp_ge (tgt := 32) hx hb dX1_partsOut_7 (by decide) (fun _ => ?_) (fun c_2 => absurd (ge_end hk_1) c_2)
      exact hE_1 v1_1 _ _ _ hR hP hD hS (lv_sub hl [1] rfl)
    | succ n ih =>
      intro k_1 v1_1 hk_1 H locs ls hR hP hD hS hl
      obtain ⟨S_1, hB_1⟩ : ∃ s9, s_X1_partsOut_l4 σ k_1 v1_1 = s9 := ⟨_, rfl⟩
      have hR : s_X1_partsOut_c4 (iter (s_X1_partsOut_l4 σ) n (k_1 + 1) S_1) = R := by rw [← hB_1]; exact hR
      have hB_1 : (v1_1 + ((σ 100 k_1) + (σ 101 k_1))) = S_1 := hB_1
      refine lv_iload_n hx hb dX1_partsOut_4 rfl (lv_at hl 0 rfl) ?_
      refine lv_bipush (v := (6 : Int32)) hx hb dX1_partsOut_5 (by decide) ?_
      refine lv_icmp_ge (tgt := 32) hx hb dX1_partsOut_7 (by decide) (fun c_3 => absurd c_3 (ge_go hk_1)) (fun _ => ?_)
      refine lv_iload_n hx hb dX1_partsOut_10 rfl (lv_at hl 1 rfl) ?_
      refine lv_aload_n hx hb dX1_partsOut_11 rfl (lv_at hl 2 rfl) ?_
      refine va_get (D := D) (ci := 1) (v := .ref (ad 100)) (C := RX1) (T := TX1) (N := 5) hx hb hts hu1 hown hK hP 3 wc_3 rfl 0 (by decide) (hts (.fieldLink RX1 9 "GrazeBook$Cover" "sheepOn" "[I") (List.mem_cons_of_mem _ mw_120)) (fun _ h9 => h9) rfl dX1_partsOut_12 ?_
      refine lv_iload_n hx hb dX1_partsOut_15 rfl (lv_at hl 0 rfl) ?_
      refine va_iald_k (k := k_1) (v := (σ 100 k_1)) hx hb hK hP 14 0 wc_14 rfl (ix_cl hk_1) rfl (ix_loop (N := 6) hk_1 (show 0 ≤ (6 : Int32).toInt ∧ (6 : Int32).toInt ≤ ((6 : Nat) : Int) by decide) (by decide) (by decide)) dX1_partsOut_16 ?_
      refine lv_aload_n hx hb dX1_partsOut_17 rfl (lv_at hl 2 rfl) ?_
      refine va_get (D := D) (ci := 1) (v := .ref (ad 101)) (C := RX1) (T := TX1) (N := 5) hx hb hts hu1 hown hK hP 3 wc_3 rfl 1 (by decide) (hts (.fieldLink RX1 15 "GrazeBook$Cover" "othersOn" "[I") (List.mem_cons_of_mem _ mw_121)) (fun _ h9 => h9) rfl dX1_partsOut_18 ?_
      refine lv_iload_n hx hb dX1_partsOut_21 rfl (lv_at hl 0 rfl) ?_
      refine va_iald_k (k := k_1) (v := (σ 101 k_1)) hx hb hK hP 15 0 wc_15 rfl (ix_cl hk_1) rfl (ix_loop (N := 6) hk_1 (show 0 ≤ (6 : Int32).toInt ∧ (6 : Int32).toInt ≤ ((6 : Nat) : Int) by decide) (by decide) (by decide)) dX1_partsOut_22 ?_
      refine lv_iadd hx hb dX1_partsOut_23 ?_
      refine lv_iadd hx hb dX1_partsOut_24 ?_
      refine lv_istore_n (lv' := [(1, .int (v1_1 + ((σ 100 k_1) + (σ 101 k_1)))), (2, .int (nI k_1)), (0, .ref (ad 807))]) hx hb dX1_partsOut_25 rfl hl (by decide) rfl (fun ls hl => ?_)
      refine lv_iinc (v := (nI (k_1 + 1))) (lv' := [(2, .int (nI (k_1 + 1))), (1, .int (v1_1 + ((σ 100 k_1) + (σ 101 k_1)))), (0, .ref (ad 807))]) hx hb dX1_partsOut_26 hl (k := 1) rfl (by rw [show Int32.ofInt 1 = 1 from by decide]; exact nI_1 _) (by decide) rfl (fun ls hl => ?_)
      refine lv_goto (tgt := 4) hx hb dX1_partsOut_29 (by decide) ?_
      subst hB_1
      exact ih (k_1 + 1) (v1_1 + ((σ 100 k_1) + (σ 101 k_1))) (ge_next hk_1)  _ _ _ hR hP hD hS (lv_sub hl [0, 1, 2] rfl)
  exact hL_1 _ 0 (0 : Int32) ⟨rfl, by decide⟩  _ _ _ hR hP hD hS (lv_sub hl [0, 1, 2] rfl)

def s_X1_partsHeld_c12  : Int32 → Int32 := fun x9 => match x9 with
  | v1_1 => v1_1
def s_X1_partsHeld_l12 (σ : St) (k_1 : Nat) : Int32 → Int32 := fun x9 => match x9 with
  | v1_1 => (v1_1 + (σ 102 k_1))
def s_X1_partsHeld (σ : St) : Int32 := (s_X1_partsHeld_c12 (iter (s_X1_partsHeld_l12 σ) ((6 : Int32).toNatClampNeg - 0) 0 ((σ 103 0) + (σ 104 0))))
set_option maxHeartbeats 1000000 in
set_option maxRecDepth 100000 in
theorem k_X1_partsHeld (l : Launch) (D : va_G) (ca : Nat → ClassId) (h : Nat) (ad : Nat → Nat) (pa : Nat → Nat → Nat) (tb : Nat) (σ : St) (sz : Nat) (hI : IX σ)  (R : Int32) (hR : s_X1_partsHeld σ = R) : Met l yX1_partsHeld wsX1_partsHeld ({ frames := 0, cells := 0, slots := 0, locals := 0 }) (va_Pc [.ref (ad 807)] (cw_pre D ca (WC ca h ad pa σ) sz tb)) (va_Qi (fun (r : Int32) (_ : Unit) => r = R) (fun (_ : Unit) (t : State) => pw_post D ca (WC ca h ad pa σ) sz (WC ca h ad pa σ) t) (va_A (WC ca h ad pa σ) sz)) 0 0 (va_A (WC ca h ad pa σ) sz) := by
  refine Met.ofW (cc := cX1_partsHeld) (maxL := 3) (ret := (some .int)) (by decide) rfl ?_
  intro p e s m args below meth c s₁ B hml hv
  obtain ⟨rfl, ⟨hsz, hP, hK, hD0⟩, hZ⟩ := hv
  have hx := B.exec
  have hb := B.bytes
  have hr := B.returns
  have hts := atoms_spec (ws := wsX1_partsHeld) B.pre
  have hown : s.vm.findClass RX1 = some m.cls := findClass_of_methodNamed B.named
  have hlocks := B.notSynchronized
  have hu1 : ∀ w ∈ u_ws RX1 TX1 5, w ∈ wsX1_partsHeld := fun w h => List.mem_cons_of_mem _ (uw1 w h)
  subst hsz
  have hD := hD0.self (sz := s.heap.size)
  obtain ⟨A, hAe⟩ : ∃ A, A = va_A (WC ca h ad pa σ) s.heap.size := ⟨_, rfl⟩
  rw [← hAe] at hD hZ ⊢
  have hA : ∀ q : Nat, s.heap.size ≤ q → A q := fun q h => by rw [hAe]; exact Or.inr h
  have hS : va_S A s.heap s.heap [] := va_S.rf
  have hl := lv_entry ([.ref (ad 807)]) (n := 3) (Nat.le_of_ble_eq_true rfl)
  rw [lg_entry_eq]
  generalize (lg_sl ([.ref (ad 807)]) ++ List.replicate (3 - (lg_sl ([.ref (ad 807)])).length) Slot.unset).toArray = ls at hl ⊢
  have hl : lv_has ls 3 [(0, .ref (ad 807))] := hl
  obtain ⟨H, hH⟩ : ∃ H, H = s.heap := ⟨_, rfl⟩
  have hP : va_P D vwCl (WC ca h ad pa σ) H := by rw [hH]; exact hP
  have hS : va_S A s.heap H [] := by rw [hH]; exact hS
  obtain ⟨QQ, hQ⟩ : ∃ Q9, Q9 = MQ below (va_Qi (fun (r : Int32) (_ : Unit) => r = R) (fun (_ : Unit) (t : State) => pw_post D ca (WC ca h ad pa σ) s.heap.size (WC ca h ad pa σ) t) A) ([.ref (ad 807)] : List Value).toArray s 0 0 A := ⟨_, rfl⟩
  rw [← hQ]
  show W _ _ _ _ _ _ _ _ _ _ s.heap _ _ _ _ _
  rw [← hH]
  have hR : (s_X1_partsHeld_c12 (iter (s_X1_partsHeld_l12 σ) ((6 : Int32).toNatClampNeg - 0) 0 ((σ 103 0) + (σ 104 0)))) = R := hR
  refine lv_aload_n hx hb dX1_partsHeld_0 rfl (lv_at hl 0 rfl) ?_
  refine va_get (D := D) (ci := 1) (v := .int (σ 103 0)) (C := RX1) (T := TX1) (N := 5) hx hb hts hu1 hown hK hP 3 wc_3 rfl 3 (by decide) (hts (.fieldLink RX1 21 "GrazeBook$Cover" "walks" "I") (List.mem_cons_of_mem _ mw_123)) (fun _ h9 => h9) rfl dX1_partsHeld_1 ?_
  refine lv_aload_n hx hb dX1_partsHeld_4 rfl (lv_at hl 0 rfl) ?_
  refine va_get (D := D) (ci := 1) (v := .int (σ 104 0)) (C := RX1) (T := TX1) (N := 5) hx hb hts hu1 hown hK hP 3 wc_3 rfl 4 (by decide) (hts (.fieldLink RX1 25 "GrazeBook$Cover" "forAny" "I") (List.mem_cons_of_mem _ mw_124)) (fun _ h9 => h9) rfl dX1_partsHeld_5 ?_
  refine lv_iadd hx hb dX1_partsHeld_8 ?_
  refine lv_istore_n (lv' := [(1, .int ((σ 103 0) + (σ 104 0))), (0, .ref (ad 807))]) hx hb dX1_partsHeld_9 rfl hl (by decide) rfl (fun ls hl => ?_)
  refine lv_iconst (v := (0 : Int32)) hx hb dX1_partsHeld_10 (by decide) ?_
  refine lv_istore_n (lv' := [(2, .int (0 : Int32)), (1, .int ((σ 103 0) + (σ 104 0))), (0, .ref (ad 807))]) hx hb dX1_partsHeld_11 rfl hl (by decide) rfl (fun ls hl => ?_)
  have hE_1 : ∀ (v1_1 : Int32) (H : Heap) (locs : List Loc) (ls : Array Slot), s_X1_partsHeld_c12 v1_1 = R → va_P D vwCl (WC ca h ad pa σ) H → va_D A (WC ca h ad pa σ) → va_S A s.heap H locs → lv_has ls 3 [(1, .int v1_1)] → W p l e ((headSpec wsX1_partsHeld ({ frames := 0, cells := 0, slots := 0, locals := 0 })).room) s m ([.ref (ad 807)] : List Value).toArray below meth c H locs 0 0 QQ (F0 m 33 ls []) := by
    intro v1_1 H locs ls hR hP hD hS hl
    have hR : v1_1 = R := hR
    refine lv_iload_n hx hb dX1_partsHeld_33 rfl (lv_at hl 0 rfl) ?_
    subst hR
    rw [hQ]
    exact W.iret (v := v1_1) hx hb hr (fun t ht hW => ⟨⟨v1_1, (), rfl, rfl, ⟨by rw [ht]; exact hP, va_K.moved hW.alike hK, by rw [← hAe]; exact hD⟩⟩, hS.F ht⟩) hS.2.2 dX1_partsHeld_34
  have hL_1 : ∀ (n k_1 : Nat) (v1_1 : Int32) (hk_1 : lpk (6 : Int32) k_1 n) (H : Heap) (locs : List Loc) (ls : Array Slot), s_X1_partsHeld_c12 (iter (s_X1_partsHeld_l12 σ) n k_1 v1_1) = R → va_P D vwCl (WC ca h ad pa σ) H → va_D A (WC ca h ad pa σ) → va_S A s.heap H locs → lv_has ls 3 [(2, .int (nI k_1)), (1, .int v1_1), (0, .ref (ad 807))] → W p l e ((headSpec wsX1_partsHeld ({ frames := 0, cells := 0, slots := 0, locals := 0 })).room) s m ([.ref (ad 807)] : List Value).toArray below meth c H locs 0 0 QQ (F0 m 12 ls []) := by
    intro n
    induction n with
    | zero =>
      intro k_1 v1_1 hk_1 H locs ls hR hP hD hS hl
      refine lv_iload_n hx hb dX1_partsHeld_12 rfl (lv_at hl 0 rfl) ?_
      refine lv_bipush (v := (6 : Int32)) hx hb dX1_partsHeld_13 (by decide) ?_
      refine lv_icmp_ge (tgt := 33) hx hb dX1_partsHeld_15 (by decide) (fun _ => ?_) (fun c_2 => absurd (ge_end hk_1) c_2)
      exact hE_1 v1_1 _ _ _ hR hP hD hS (lv_sub hl [1] rfl)
    | succ n ih =>
      intro k_1 v1_1 hk_1 H locs ls hR hP hD hS hl
      obtain ⟨S_1, hB_1⟩ : ∃ s9, s_X1_partsHeld_l12 σ k_1 v1_1 = s9 := ⟨_, rfl⟩
      have hR : s_X1_partsHeld_c12 (iter (s_X1_partsHeld_l12 σ) n (k_1 + 1) S_1) = R := by rw [← hB_1]; exact hR
      have hB_1 : (v1_1 + (σ 102 k_1)) = S_1 := hB_1
      refine lv_iload_n hx hb dX1_partsHeld_12 rfl (lv_at hl 0 rfl) ?_
      refine lv_bipush (v := (6 : Int32)) hx hb dX1_partsHeld_13 (by decide) ?_
      refine lv_icmp_ge (tgt := 33) hx hb dX1_partsHeld_15 (by decide) (fun c_3 => absurd c_3 (ge_go hk_1)) (fun _ => ?_)
      refine lv_iload_n hx hb dX1_partsHeld_18 rfl (lv_at hl 1 rfl) ?_
      refine lv_aload_n hx hb dX1_partsHeld_19 rfl (lv_at hl 2 rfl) ?_
      refine va_get (D := D) (ci := 1) (v := .ref (ad 102)) (C := RX1) (T := TX1) (N := 5) hx hb hts hu1 hown hK hP 3 wc_3 rfl 2 (by decide) (hts (.fieldLink RX1 18 "GrazeBook$Cover" "leazesFor" "[I") (List.mem_cons_of_mem _ mw_122)) (fun _ h9 => h9) rfl dX1_partsHeld_20 ?_
      refine lv_iload_n hx hb dX1_partsHeld_23 rfl (lv_at hl 0 rfl) ?_
      refine va_iald_k (k := k_1) (v := (σ 102 k_1)) hx hb hK hP 16 0 wc_16 rfl (ix_cl hk_1) rfl (ix_loop (N := 6) hk_1 (show 0 ≤ (6 : Int32).toInt ∧ (6 : Int32).toInt ≤ ((6 : Nat) : Int) by decide) (by decide) (by decide)) dX1_partsHeld_24 ?_
      refine lv_iadd hx hb dX1_partsHeld_25 ?_
      refine lv_istore_n (lv' := [(1, .int (v1_1 + (σ 102 k_1))), (2, .int (nI k_1)), (0, .ref (ad 807))]) hx hb dX1_partsHeld_26 rfl hl (by decide) rfl (fun ls hl => ?_)
      refine lv_iinc (v := (nI (k_1 + 1))) (lv' := [(2, .int (nI (k_1 + 1))), (1, .int (v1_1 + (σ 102 k_1))), (0, .ref (ad 807))]) hx hb dX1_partsHeld_27 hl (k := 1) rfl (by rw [show Int32.ofInt 1 = 1 from by decide]; exact nI_1 _) (by decide) rfl (fun ls hl => ?_)
      refine lv_goto (tgt := 12) hx hb dX1_partsHeld_30 (by decide) ?_
      subst hB_1
      exact ih (k_1 + 1) (v1_1 + (σ 102 k_1)) (ge_next hk_1)  _ _ _ hR hP hD hS (lv_sub hl [0, 1, 2] rfl)
  exact hL_1 _ 0 ((σ 103 0) + (σ 104 0)) ⟨rfl, by decide⟩  _ _ _ hR hP hD hS (lv_sub hl [0, 1, 2] rfl)

def s_X1_partsForHay (σ : St) (a1 : Int32) : Int32 := (if a1 < (0 : Int32) then ((σ 104 0) + (0 : Int32)) else (if (6 : Int32) ≤ a1 then ((σ 104 0) + (0 : Int32)) else ((σ 104 0) + (σ 102 (a1.toNatClampNeg)))))
set_option maxHeartbeats 1000000 in
set_option maxRecDepth 100000 in
theorem k_X1_partsForHay (l : Launch) (D : va_G) (ca : Nat → ClassId) (h : Nat) (ad : Nat → Nat) (pa : Nat → Nat → Nat) (tb : Nat) (σ : St) (a1 : Int32) (sz : Nat) (hI : IX σ)  (R : Int32) (hR : s_X1_partsForHay σ a1 = R) : Met l yX1_partsForHay wsX1_partsForHay ({ frames := 0, cells := 0, slots := 0, locals := 0 }) (va_Pc [.ref (ad 807), .int a1] (cw_pre D ca (WC ca h ad pa σ) sz tb)) (va_Qi (fun (r : Int32) (_ : Unit) => r = R) (fun (_ : Unit) (t : State) => pw_post D ca (WC ca h ad pa σ) sz (WC ca h ad pa σ) t) (va_A (WC ca h ad pa σ) sz)) 0 0 (va_A (WC ca h ad pa σ) sz) := by
  refine Met.ofW (cc := cX1_partsForHay) (maxL := 2) (ret := (some .int)) (by decide) rfl ?_
  intro p e s m args below meth c s₁ B hml hv
  obtain ⟨rfl, ⟨hsz, hP, hK, hD0⟩, hZ⟩ := hv
  have hx := B.exec
  have hb := B.bytes
  have hr := B.returns
  have hts := atoms_spec (ws := wsX1_partsForHay) B.pre
  have hown : s.vm.findClass RX1 = some m.cls := findClass_of_methodNamed B.named
  have hlocks := B.notSynchronized
  have hu1 : ∀ w ∈ u_ws RX1 TX1 5, w ∈ wsX1_partsForHay := fun w h => List.mem_cons_of_mem _ (uw1 w h)
  subst hsz
  have hD := hD0.self (sz := s.heap.size)
  obtain ⟨A, hAe⟩ : ∃ A, A = va_A (WC ca h ad pa σ) s.heap.size := ⟨_, rfl⟩
  rw [← hAe] at hD hZ ⊢
  have hA : ∀ q : Nat, s.heap.size ≤ q → A q := fun q h => by rw [hAe]; exact Or.inr h
  have hS : va_S A s.heap s.heap [] := va_S.rf
  have hl := lv_entry ([.ref (ad 807), .int a1]) (n := 2) (Nat.le_of_ble_eq_true rfl)
  rw [lg_entry_eq]
  generalize (lg_sl ([.ref (ad 807), .int a1]) ++ List.replicate (2 - (lg_sl ([.ref (ad 807), .int a1])).length) Slot.unset).toArray = ls at hl ⊢
  have hl : lv_has ls 2 [(0, .ref (ad 807)), (1, .int a1)] := hl
  obtain ⟨H, hH⟩ : ∃ H, H = s.heap := ⟨_, rfl⟩
  have hP : va_P D vwCl (WC ca h ad pa σ) H := by rw [hH]; exact hP
  have hS : va_S A s.heap H [] := by rw [hH]; exact hS
  obtain ⟨QQ, hQ⟩ : ∃ Q9, Q9 = MQ below (va_Qi (fun (r : Int32) (_ : Unit) => r = R) (fun (_ : Unit) (t : State) => pw_post D ca (WC ca h ad pa σ) s.heap.size (WC ca h ad pa σ) t) A) ([.ref (ad 807), .int a1] : List Value).toArray s 0 0 A := ⟨_, rfl⟩
  rw [← hQ]
  show W _ _ _ _ _ _ _ _ _ _ s.heap _ _ _ _ _
  rw [← hH]
  have hR : (if a1 < (0 : Int32) then ((σ 104 0) + (0 : Int32)) else (if (6 : Int32) ≤ a1 then ((σ 104 0) + (0 : Int32)) else ((σ 104 0) + (σ 102 (a1.toNatClampNeg))))) = R := hR
  refine lv_aload_n hx hb dX1_partsForHay_0 rfl (lv_at hl 0 rfl) ?_
  refine va_get (D := D) (ci := 1) (v := .int (σ 104 0)) (C := RX1) (T := TX1) (N := 5) hx hb hts hu1 hown hK hP 3 wc_3 rfl 4 (by decide) (hts (.fieldLink RX1 25 "GrazeBook$Cover" "forAny" "I") (List.mem_cons_of_mem _ mw_124)) (fun _ h9 => h9) rfl dX1_partsForHay_1 ?_
  refine lv_iload_n hx hb dX1_partsForHay_4 rfl (lv_at hl 1 rfl) ?_
  refine lv_if_lt (tgt := 23) hx hb dX1_partsForHay_5 (by decide) (fun c_1 => ?_) (fun c_1 => ?_)
  · have hR := (if_pos c_1).symm.trans hR
    refine lv_iconst (v := (0 : Int32)) hx hb dX1_partsForHay_23 (by decide) ?_
    refine lv_iadd hx hb dX1_partsForHay_24 ?_
    subst hR
    rw [hQ]
    exact W.iret (v := ((σ 104 0) + (0 : Int32))) hx hb hr (fun t ht hW => ⟨⟨((σ 104 0) + (0 : Int32)), (), rfl, rfl, ⟨by rw [ht]; exact hP, va_K.moved hW.alike hK, by rw [← hAe]; exact hD⟩⟩, hS.F ht⟩) hS.2.2 dX1_partsForHay_25
  · have hR := (if_neg c_1).symm.trans hR
    refine lv_iload_n hx hb dX1_partsForHay_8 rfl (lv_at hl 1 rfl) ?_
    refine lv_bipush (v := (6 : Int32)) hx hb dX1_partsForHay_9 (by decide) ?_
    refine lv_icmp_ge (tgt := 23) hx hb dX1_partsForHay_11 (by decide) (fun c_2 => ?_) (fun c_2 => ?_)
    · have hR := (if_pos c_2).symm.trans hR
      refine lv_iconst (v := (0 : Int32)) hx hb dX1_partsForHay_23 (by decide) ?_
      refine lv_iadd hx hb dX1_partsForHay_24 ?_
      subst hR
      rw [hQ]
      exact W.iret (v := ((σ 104 0) + (0 : Int32))) hx hb hr (fun t ht hW => ⟨⟨((σ 104 0) + (0 : Int32)), (), rfl, rfl, ⟨by rw [ht]; exact hP, va_K.moved hW.alike hK, by rw [← hAe]; exact hD⟩⟩, hS.F ht⟩) hS.2.2 dX1_partsForHay_25
    · have hR := (if_neg c_2).symm.trans hR
      refine lv_aload_n hx hb dX1_partsForHay_14 rfl (lv_at hl 0 rfl) ?_
      refine va_get (D := D) (ci := 1) (v := .ref (ad 102)) (C := RX1) (T := TX1) (N := 5) hx hb hts hu1 hown hK hP 3 wc_3 rfl 2 (by decide) (hts (.fieldLink RX1 18 "GrazeBook$Cover" "leazesFor" "[I") (List.mem_cons_of_mem _ mw_122)) (fun _ h9 => h9) rfl dX1_partsForHay_15 ?_
      refine lv_iload_n hx hb dX1_partsForHay_18 rfl (lv_at hl 1 rfl) ?_
      refine va_iald_k (k := (a1.toNatClampNeg)) (v := (σ 102 (a1.toNatClampNeg))) hx hb hK hP 16 0 wc_16 rfl rfl rfl (ix_rng (not_lt0 c_1) (lt_of_not_le0 c_2) (by decide)) dX1_partsForHay_19 ?_
      refine lv_goto (tgt := 24) hx hb dX1_partsForHay_20 (by decide) ?_
      refine lv_iadd hx hb dX1_partsForHay_24 ?_
      subst hR
      rw [hQ]
      exact W.iret (v := ((σ 104 0) + (σ 102 (a1.toNatClampNeg)))) hx hb hr (fun t ht hW => ⟨⟨((σ 104 0) + (σ 102 (a1.toNatClampNeg))), (), rfl, rfl, ⟨by rw [ht]; exact hP, va_K.moved hW.alike hK, by rw [← hAe]; exact hD⟩⟩, hS.F ht⟩) hS.2.2 dX1_partsForHay_25

def s_X8_countingParts_c32  : Int32 → Int32 := fun x9 => match x9 with
  | v2_3 => v2_3
def s_X8_countingParts_l32 (σ : St) (a1 : Int32) (k_3 : Nat) : Int32 → Option Int32 := fun x9 => match x9 with
  | v2_3 => (if (σ 0 (a1.toNatClampNeg)) = (0 : Int32) then (if (σ 5 k_3) = a1 then (if (s_X0_isInForce σ k_3 (σ 816 0)) = (0 : Int32) then (some v2_3) else (some (v2_3 - (σ 1 k_3)))) else (some v2_3)) else none)
def s_X8_countingParts (σ : St) (a1 : Int32) : Int32 := (if (s_X0_isInForce σ (a1.toNatClampNeg) (σ 816 0)) = (0 : Int32) then (0 : Int32) else (s_X8_countingParts_c32 (iterC (s_X8_countingParts_l32 σ a1) ((σ 814 0).toNatClampNeg - (a1.toNatClampNeg + 1)) (a1.toNatClampNeg + 1) (σ 1 (a1.toNatClampNeg)))))
set_option maxHeartbeats 1000000 in
set_option maxRecDepth 100000 in
theorem k_X8_countingParts (l : Launch) (D : va_G) (ca : Nat → ClassId) (h : Nat) (ad : Nat → Nat) (pa : Nat → Nat → Nat) (tb : Nat) (σ : St) (a1 : Int32) (sz : Nat) (hI : IX σ) (ha1 : vp_in a1 60) (hb1 : a1.toNatClampNeg < (σ 814 0).toNatClampNeg) (R : Int32) (hR : s_X8_countingParts σ a1 = R) : Met l yX8_countingParts wsX8_countingParts ({ frames := 1, cells := 0, slots := 0, locals := 21 }) (va_Pc [.ref h, .int a1] (cw_pre D ca (WC ca h ad pa σ) sz tb)) (va_Qi (fun (r : Int32) (_ : Unit) => r = R) (fun (_ : Unit) (t : State) => pw_post D ca (WC ca h ad pa σ) sz (WC ca h ad pa σ) t) (va_A (WC ca h ad pa σ) sz)) 0 0 (va_A (WC ca h ad pa σ) sz) := by
  refine Met.ofW (cc := cX8_countingParts) (maxL := 4) (ret := (some .int)) (by decide) rfl ?_
  intro p e s m args below meth c s₁ B hml hv
  obtain ⟨rfl, ⟨hsz, hP, hK, hD0⟩, hZ⟩ := hv
  have hx := B.exec
  have hb := B.bytes
  have hr := B.returns
  have hts := atoms_spec (ws := wsX8_countingParts) B.pre
  have hown : s.vm.findClass RX8 = some m.cls := findClass_of_methodNamed B.named
  have hlocks := B.notSynchronized
  have hu0 : ∀ w ∈ u_ws RX0 TX0 9, w ∈ wsX8_countingParts := fun w h => List.mem_cons_of_mem _ (uw0 w h)
  have hu8 : ∀ w ∈ u_ws RX8 TX8 19, w ∈ wsX8_countingParts := fun w h => List.mem_cons_of_mem _ (uw8 w h)
  subst hsz
  have hD := hD0.self (sz := s.heap.size)
  obtain ⟨A, hAe⟩ : ∃ A, A = va_A (WC ca h ad pa σ) s.heap.size := ⟨_, rfl⟩
  rw [← hAe] at hD hZ ⊢
  have hA : ∀ q : Nat, s.heap.size ≤ q → A q := fun q h => by rw [hAe]; exact Or.inr h
  have hS : va_S A s.heap s.heap [] := va_S.rf
  have hl := lv_entry ([.ref h, .int a1]) (n := 4) (Nat.le_of_ble_eq_true rfl)
  rw [lg_entry_eq]
  generalize (lg_sl ([.ref h, .int a1]) ++ List.replicate (4 - (lg_sl ([.ref h, .int a1])).length) Slot.unset).toArray = ls at hl ⊢
  have hl : lv_has ls 4 [(0, .ref h), (1, .int a1)] := hl
  obtain ⟨H, hH⟩ : ∃ H, H = s.heap := ⟨_, rfl⟩
  have hP : va_P D vwCl (WC ca h ad pa σ) H := by rw [hH]; exact hP
  have hS : va_S A s.heap H [] := by rw [hH]; exact hS
  obtain ⟨QQ, hQ⟩ : ∃ Q9, Q9 = MQ below (va_Qi (fun (r : Int32) (_ : Unit) => r = R) (fun (_ : Unit) (t : State) => pw_post D ca (WC ca h ad pa σ) s.heap.size (WC ca h ad pa σ) t) A) ([.ref h, .int a1] : List Value).toArray s 0 0 A := ⟨_, rfl⟩
  rw [← hQ]
  show W _ _ _ _ _ _ _ _ _ _ s.heap _ _ _ _ _
  rw [← hH]
  have hR : (if (s_X0_isInForce σ (a1.toNatClampNeg) (σ 816 0)) = (0 : Int32) then (0 : Int32) else (s_X8_countingParts_c32 (iterC (s_X8_countingParts_l32 σ a1) ((σ 814 0).toNatClampNeg - (a1.toNatClampNeg + 1)) (a1.toNatClampNeg + 1) (σ 1 (a1.toNatClampNeg))))) = R := hR
  refine lv_aload_n hx hb dX8_countingParts_0 rfl (lv_at hl 0 rfl) ?_
  refine va_get (D := D) (ci := 8) (v := .ref (ad 804)) (C := RX8) (T := TX8) (N := 19) hx hb hts hu8 hown hK hP 0 wc_0 rfl 4 (by decide) (hts (.fieldLink RX8 34 "GrazeBook" "rights" "[LGrazeBook$Claim;") (List.mem_cons_of_mem _ mw_214)) (fun _ h9 => h9) rfl dX8_countingParts_1 ?_
  refine lv_iload_n hx hb dX8_countingParts_4 rfl (lv_at hl 1 rfl) ?_
  refine va_aldq_k (k := (a1.toNatClampNeg)) (b := pa 2 (a1.toNatClampNeg)) hx hb hK hP 8 4 wc_8 rfl rfl (rf_at hb1) ha1 dX8_countingParts_5 ?_
  refine lv_aload_n hx hb dX8_countingParts_6 rfl (lv_at hl 0 rfl) ?_
  refine va_get (D := D) (ci := 8) (v := .int (σ 816 0)) (C := RX8) (T := TX8) (N := 19) hx hb hts hu8 hown hK hP 0 wc_0 rfl 16 (by decide) (hts (.fieldLink RX8 91 "GrazeBook" "day" "I") (List.mem_cons_of_mem _ mw_226)) (fun _ h9 => h9) rfl dX8_countingParts_7 ?_
  have hF := pw_free hD hS hA
  refine va_calli (va_runV (As := [.int (σ 816 0)]) (rest := []) ⟨hx, hb, hml, hown, hts⟩ (k_X0_isInForce l D ca h ad pa tb σ (a1.toNatClampNeg) (σ 816 0) H.size hI hb1 _ rfl) (cwV 1 hts gX8_countingParts_X0_isInForce rfl rfl rfl (by decide +kernel) ⟨Nat.le_of_ble_eq_true rfl, Nat.le_of_ble_eq_true rfl⟩) ⟨cw_blind, va_recv hK hP (ci := 0) (q0 := (pcC ca h ad pa σ (a1.toNatClampNeg))) rfl (wc_aC hb1), cw_give hP hK hD hZ hS hF⟩ rfl rfl hl.1 rfl (lv_room (Nat.le_of_ble_eq_true rfl)) dX8_countingParts_10 ⟨Nat.le_of_ble_eq_true rfl, Nat.le_of_ble_eq_true rfl⟩) hS (fun q _ h => hF q h) hF (fun r_1 u t H1 locs ht hvm hw hB hz1 hk1 hS => ?_)
  rw [hw]
  obtain ⟨hP, hD⟩ := pw_back hF ht hB
  clear hB hk1 hz1 hF
  generalize H1 = H at hP hS ⊢
  refine lv_if_ne (tgt := 18) hx hb dX8_countingParts_13 (by decide) (fun c_2 => ?_) (fun c_2 => ?_)
  · have hR := (if_neg c_2).symm.trans hR
    refine lv_aload_n hx hb dX8_countingParts_18 rfl (lv_at hl 0 rfl) ?_
    refine va_get (D := D) (ci := 8) (v := .ref (ad 804)) (C := RX8) (T := TX8) (N := 19) hx hb hts hu8 hown hK hP 0 wc_0 rfl 4 (by decide) (hts (.fieldLink RX8 34 "GrazeBook" "rights" "[LGrazeBook$Claim;") (List.mem_cons_of_mem _ mw_214)) (fun _ h9 => h9) rfl dX8_countingParts_19 ?_
    refine lv_iload_n hx hb dX8_countingParts_22 rfl (lv_at hl 1 rfl) ?_
    refine va_aldq_k (k := (a1.toNatClampNeg)) (b := pa 2 (a1.toNatClampNeg)) hx hb hK hP 8 4 wc_8 rfl rfl (rf_at hb1) ha1 dX8_countingParts_23 ?_
    refine va_get (D := D) (ci := 0) (v := .int (σ 1 (a1.toNatClampNeg))) (C := RX0) (T := TX0) (N := 9) hx hb hts hu0 hown hK hP (pcC ca h ad pa σ (a1.toNatClampNeg)) (wc_aC hb1) rfl 1 (by decide) (hts (.fieldLink RX8 309 "GrazeBook$Claim" "parts" "I") (List.mem_cons_of_mem _ mw_361)) (fun _ h9 => h9) rfl dX8_countingParts_24 ?_
    refine lv_istore_n (lv' := [(2, .int (σ 1 (a1.toNatClampNeg))), (0, .ref h), (1, .int a1)]) hx hb dX8_countingParts_27 rfl hl (by decide) rfl (fun ls hl => ?_)
    refine lv_iload_n hx hb dX8_countingParts_28 rfl (lv_at hl 2 rfl) ?_
    refine lv_iconst (v := (1 : Int32)) hx hb dX8_countingParts_29 (by decide) ?_
    refine lv_iadd hx hb dX8_countingParts_30 ?_
    refine lv_istore_n (lv' := [(3, .int (a1 + (1 : Int32))), (2, .int (σ 1 (a1.toNatClampNeg))), (0, .ref h), (1, .int a1)]) hx hb dX8_countingParts_31 rfl hl (by decide) rfl (fun ls hl => ?_)
    have hE_3 : ∀ (v2_3 : Int32) (H : Heap) (locs : List Loc) (ls : Array Slot), s_X8_countingParts_c32 v2_3 = R → va_P D vwCl (WC ca h ad pa σ) H → va_D A (WC ca h ad pa σ) → va_S A s.heap H locs → lv_has ls 4 [(2, .int v2_3)] → W p l e ((headSpec wsX8_countingParts ({ frames := 1, cells := 0, slots := 0, locals := 21 })).room) s m ([.ref h, .int a1] : List Value).toArray below meth c H locs 0 0 QQ (F0 m 99 ls []) := by
      intro v2_3 H locs ls hR hP hD hS hl
      have hR : v2_3 = R := hR
      refine lv_iload_n hx hb dX8_countingParts_99 rfl (lv_at hl 0 rfl) ?_
      subst hR
      rw [hQ]
      exact W.iret (v := v2_3) hx hb hr (fun t ht hW => ⟨⟨v2_3, (), rfl, rfl, ⟨by rw [ht]; exact hP, va_K.moved hW.alike hK, by rw [← hAe]; exact hD⟩⟩, hS.F ht⟩) hS.2.2 dX8_countingParts_100
    have hL_3 : ∀ (n k_3 : Nat) (v2_3 : Int32) (hk_3 : lpk (σ 814 0) k_3 n) (H : Heap) (locs : List Loc) (ls : Array Slot), s_X8_countingParts_c32 (iterC (s_X8_countingParts_l32 σ a1) n k_3 v2_3) = R → va_P D vwCl (WC ca h ad pa σ) H → va_D A (WC ca h ad pa σ) → va_S A s.heap H locs → lv_has ls 4 [(3, .int (nI k_3)), (2, .int v2_3), (0, .ref h), (1, .int a1)] → W p l e ((headSpec wsX8_countingParts ({ frames := 1, cells := 0, slots := 0, locals := 21 })).room) s m ([.ref h, .int a1] : List Value).toArray below meth c H locs 0 0 QQ (F0 m 32 ls []) := by
      intro n
      induction n with
      | zero =>
        intro k_3 v2_3 hk_3 H locs ls hR hP hD hS hl
        refine lv_iload_n hx hb dX8_countingParts_32 rfl (lv_at hl 0 rfl) ?_
        refine lv_aload_n hx hb dX8_countingParts_33 rfl (lv_at hl 2 rfl) ?_
        refine va_get (D := D) (ci := 8) (v := .int (σ 814 0)) (C := RX8) (T := TX8) (N := 19) hx hb hts hu8 hown hK hP 0 wc_0 rfl 14 (by decide) (hts (.fieldLink RX8 85 "GrazeBook" "rightCount" "I") (List.mem_cons_of_mem _ mw_224)) (fun _ h9 => h9) rfl dX8_countingParts_34 ?_
        refine lv_icmp_ge (tgt := 99) hx hb dX8_countingParts_37 (by decide) (fun _ => ?_) (fun c_4 => absurd (ge_end hk_3) c_4)
        exact hE_3 v2_3 _ _ _ hR hP hD hS (lv_sub hl [1] rfl)
      | succ n ih =>
        intro k_3 v2_3 hk_3 H locs ls hR hP hD hS hl
        obtain ⟨S_3, hB_3⟩ : ∃ s9, s_X8_countingParts_l32 σ a1 k_3 v2_3 = s9 := ⟨_, rfl⟩
        have hR : s_X8_countingParts_c32 (iterC1 (s_X8_countingParts_l32 σ a1) n k_3 v2_3 S_3) = R := by rw [← hB_3]; exact hR
        have hB_3 : (if (σ 0 (a1.toNatClampNeg)) = (0 : Int32) then (if (σ 5 k_3) = a1 then (if (s_X0_isInForce σ k_3 (σ 816 0)) = (0 : Int32) then (some v2_3) else (some (v2_3 - (σ 1 k_3)))) else (some v2_3)) else none) = S_3 := hB_3
        refine lv_iload_n hx hb dX8_countingParts_32 rfl (lv_at hl 0 rfl) ?_
        refine lv_aload_n hx hb dX8_countingParts_33 rfl (lv_at hl 2 rfl) ?_
        refine va_get (D := D) (ci := 8) (v := .int (σ 814 0)) (C := RX8) (T := TX8) (N := 19) hx hb hts hu8 hown hK hP 0 wc_0 rfl 14 (by decide) (hts (.fieldLink RX8 85 "GrazeBook" "rightCount" "I") (List.mem_cons_of_mem _ mw_224)) (fun _ h9 => h9) rfl dX8_countingParts_34 ?_
        refine lv_icmp_ge (tgt := 99) hx hb dX8_countingParts_37 (by decide) (fun c_5 => absurd c_5 (ge_go hk_3)) (fun _ => ?_)
        refine lv_aload_n hx hb dX8_countingParts_40 rfl (lv_at hl 2 rfl) ?_
        refine va_get (D := D) (ci := 8) (v := .ref (ad 804)) (C := RX8) (T := TX8) (N := 19) hx hb hts hu8 hown hK hP 0 wc_0 rfl 4 (by decide) (hts (.fieldLink RX8 34 "GrazeBook" "rights" "[LGrazeBook$Claim;") (List.mem_cons_of_mem _ mw_214)) (fun _ h9 => h9) rfl dX8_countingParts_41 ?_
        refine lv_iload_n hx hb dX8_countingParts_44 rfl (lv_at hl 3 rfl) ?_
        refine va_aldq_k (k := (a1.toNatClampNeg)) (b := pa 2 (a1.toNatClampNeg)) hx hb hK hP 8 4 wc_8 rfl rfl (rf_at hb1) ha1 dX8_countingParts_45 ?_
        refine va_get (D := D) (ci := 0) (v := .int (σ 0 (a1.toNatClampNeg))) (C := RX0) (T := TX0) (N := 9) hx hb hts hu0 hown hK hP (pcC ca h ad pa σ (a1.toNatClampNeg)) (wc_aC hb1) rfl 0 (by decide) (hts (.fieldLink RX8 140 "GrazeBook$Claim" "kind" "I") (List.mem_cons_of_mem _ mw_359)) (fun _ h9 => h9) rfl dX8_countingParts_46 ?_
        refine lv_if_ne (tgt := 99) hx hb dX8_countingParts_49 (by decide) (fun c_6 => ?_) (fun c_6 => ?_)
        · have hB_3 := (if_neg c_6).symm.trans hB_3
          subst hB_3
          exact hE_3 v2_3 _ _ _ hR hP hD hS (lv_sub hl [1] rfl)
        · have hB_3 := (if_pos c_6).symm.trans hB_3
          refine lv_aload_n hx hb dX8_countingParts_52 rfl (lv_at hl 2 rfl) ?_
          refine va_get (D := D) (ci := 8) (v := .ref (ad 804)) (C := RX8) (T := TX8) (N := 19) hx hb hts hu8 hown hK hP 0 wc_0 rfl 4 (by decide) (hts (.fieldLink RX8 34 "GrazeBook" "rights" "[LGrazeBook$Claim;") (List.mem_cons_of_mem _ mw_214)) (fun _ h9 => h9) rfl dX8_countingParts_53 ?_
          refine lv_iload_n hx hb dX8_countingParts_56 rfl (lv_at hl 0 rfl) ?_
          refine va_aldq_k (k := k_3) (b := pa 2 k_3) hx hb hK hP 8 4 wc_8 rfl (ix_cl hk_3) (rf_at (k_ltb hk_3)) (ix_loop (N := 60) hk_3 (ix_814 hI) (by decide) (by decide)) dX8_countingParts_57 ?_
          refine va_get (D := D) (ci := 0) (v := .int (σ 5 k_3)) (C := RX0) (T := TX0) (N := 9) hx hb hts hu0 hown hK hP (pcC ca h ad pa σ k_3) (wc_aC (k_ltb hk_3)) rfl 5 (by decide) (hts (.fieldLink RX8 266 "GrazeBook$Claim" "source" "I") (List.mem_cons_of_mem _ mw_369)) (fun _ h9 => h9) rfl dX8_countingParts_58 ?_
          refine lv_iload_n hx hb dX8_countingParts_61 rfl (lv_at hl 3 rfl) ?_
          refine lv_icmp_ne (tgt := 93) hx hb dX8_countingParts_62 (by decide) (fun c_7 => ?_) (fun c_7 => ?_)
          · have hB_3 := (if_neg c_7).symm.trans hB_3
            refine lv_iinc (v := (nI (k_3 + 1))) (lv' := [(3, .int (nI (k_3 + 1))), (2, .int v2_3), (0, .ref h), (1, .int a1)]) hx hb dX8_countingParts_93 hl (k := 0) rfl (by rw [show Int32.ofInt 1 = 1 from by decide]; exact nI_1 _) (by decide) rfl (fun ls hl => ?_)
            refine lv_goto (tgt := 32) hx hb dX8_countingParts_96 (by decide) ?_
            subst hB_3
            exact ih (k_3 + 1) v2_3 (ge_next hk_3)  _ _ _ hR hP hD hS (lv_sub hl [0, 1, 2, 3] rfl)
          · have hB_3 := (if_pos c_7).symm.trans hB_3
            refine lv_aload_n hx hb dX8_countingParts_65 rfl (lv_at hl 2 rfl) ?_
            refine va_get (D := D) (ci := 8) (v := .ref (ad 804)) (C := RX8) (T := TX8) (N := 19) hx hb hts hu8 hown hK hP 0 wc_0 rfl 4 (by decide) (hts (.fieldLink RX8 34 "GrazeBook" "rights" "[LGrazeBook$Claim;") (List.mem_cons_of_mem _ mw_214)) (fun _ h9 => h9) rfl dX8_countingParts_66 ?_
            refine lv_iload_n hx hb dX8_countingParts_69 rfl (lv_at hl 0 rfl) ?_
            refine va_aldq_k (k := k_3) (b := pa 2 k_3) hx hb hK hP 8 4 wc_8 rfl (ix_cl hk_3) (rf_at (k_ltb hk_3)) (ix_loop (N := 60) hk_3 (ix_814 hI) (by decide) (by decide)) dX8_countingParts_70 ?_
            refine lv_aload_n hx hb dX8_countingParts_71 rfl (lv_at hl 2 rfl) ?_
            refine va_get (D := D) (ci := 8) (v := .int (σ 816 0)) (C := RX8) (T := TX8) (N := 19) hx hb hts hu8 hown hK hP 0 wc_0 rfl 16 (by decide) (hts (.fieldLink RX8 91 "GrazeBook" "day" "I") (List.mem_cons_of_mem _ mw_226)) (fun _ h9 => h9) rfl dX8_countingParts_72 ?_
            have hF := pw_free hD hS hA
            refine va_calli (va_runV (As := [.int (σ 816 0)]) (rest := []) ⟨hx, hb, hml, hown, hts⟩ (k_X0_isInForce l D ca h ad pa tb σ k_3 (σ 816 0) H.size hI (k_ltb hk_3) _ rfl) (cwV 1 hts gX8_countingParts_X0_isInForce rfl rfl rfl (by decide +kernel) ⟨Nat.le_of_ble_eq_true rfl, Nat.le_of_ble_eq_true rfl⟩) ⟨cw_blind, va_recv hK hP (ci := 0) (q0 := (pcC ca h ad pa σ k_3)) rfl (wc_aC (k_ltb hk_3)), cw_give hP hK hD hZ hS hF⟩ rfl rfl hl.1 rfl (lv_room (Nat.le_of_ble_eq_true rfl)) dX8_countingParts_75 ⟨Nat.le_of_ble_eq_true rfl, Nat.le_of_ble_eq_true rfl⟩) hS (fun q _ h => hF q h) hF (fun r_8 u t H1 locs ht hvm hw hB hz1 hk1 hS => ?_)
            rw [hw]
            obtain ⟨hP, hD⟩ := pw_back hF ht hB
            clear hB hk1 hz1 hF
            generalize H1 = H at hP hS ⊢
            refine lv_if_eq (tgt := 93) hx hb dX8_countingParts_78 (by decide) (fun c_9 => ?_) (fun c_9 => ?_)
            · have hB_3 := (if_pos c_9).symm.trans hB_3
              refine lv_iinc (v := (nI (k_3 + 1))) (lv' := [(3, .int (nI (k_3 + 1))), (2, .int v2_3), (0, .ref h), (1, .int a1)]) hx hb dX8_countingParts_93 hl (k := 0) rfl (by rw [show Int32.ofInt 1 = 1 from by decide]; exact nI_1 _) (by decide) rfl (fun ls hl => ?_)
              refine lv_goto (tgt := 32) hx hb dX8_countingParts_96 (by decide) ?_
              subst hB_3
              exact ih (k_3 + 1) v2_3 (ge_next hk_3)  _ _ _ hR hP hD hS (lv_sub hl [0, 1, 2, 3] rfl)
            · have hB_3 := (if_neg c_9).symm.trans hB_3
              refine lv_iload_n hx hb dX8_countingParts_81 rfl (lv_at hl 1 rfl) ?_
              refine lv_aload_n hx hb dX8_countingParts_82 rfl (lv_at hl 2 rfl) ?_
              refine va_get (D := D) (ci := 8) (v := .ref (ad 804)) (C := RX8) (T := TX8) (N := 19) hx hb hts hu8 hown hK hP 0 wc_0 rfl 4 (by decide) (hts (.fieldLink RX8 34 "GrazeBook" "rights" "[LGrazeBook$Claim;") (List.mem_cons_of_mem _ mw_214)) (fun _ h9 => h9) rfl dX8_countingParts_83 ?_
              refine lv_iload_n hx hb dX8_countingParts_86 rfl (lv_at hl 0 rfl) ?_
              refine va_aldq_k (k := k_3) (b := pa 2 k_3) hx hb hK hP 8 4 wc_8 rfl (ix_cl hk_3) (rf_at (k_ltb hk_3)) (ix_loop (N := 60) hk_3 (ix_814 hI) (by decide) (by decide)) dX8_countingParts_87 ?_
              refine va_get (D := D) (ci := 0) (v := .int (σ 1 k_3)) (C := RX0) (T := TX0) (N := 9) hx hb hts hu0 hown hK hP (pcC ca h ad pa σ k_3) (wc_aC (k_ltb hk_3)) rfl 1 (by decide) (hts (.fieldLink RX8 309 "GrazeBook$Claim" "parts" "I") (List.mem_cons_of_mem _ mw_361)) (fun _ h9 => h9) rfl dX8_countingParts_88 ?_
              refine lv_isub hx hb dX8_countingParts_91 ?_
              refine lv_istore_n (lv' := [(2, .int (v2_3 - (σ 1 k_3))), (3, .int (nI k_3)), (0, .ref h), (1, .int a1)]) hx hb dX8_countingParts_92 rfl hl (by decide) rfl (fun ls hl => ?_)
              refine lv_iinc (v := (nI (k_3 + 1))) (lv' := [(3, .int (nI (k_3 + 1))), (2, .int (v2_3 - (σ 1 k_3))), (0, .ref h), (1, .int a1)]) hx hb dX8_countingParts_93 hl (k := 1) rfl (by rw [show Int32.ofInt 1 = 1 from by decide]; exact nI_1 _) (by decide) rfl (fun ls hl => ?_)
              refine lv_goto (tgt := 32) hx hb dX8_countingParts_96 (by decide) ?_
              subst hB_3
              exact ih (k_3 + 1) (v2_3 - (σ 1 k_3)) (ge_next hk_3)  _ _ _ hR hP hD hS (lv_sub hl [0, 1, 2, 3] rfl)
    rw [(inc_nI ha1 (by decide))] at hl
    exact hL_3 _ (a1.toNatClampNeg + 1) (σ 1 (a1.toNatClampNeg)) ⟨rfl, inc_lt ha1 (by decide)⟩  _ _ _ hR hP hD hS (lv_sub hl [0, 1, 2, 3] rfl)
  · have hR := (if_pos c_2).symm.trans hR
    refine lv_iconst (v := (0 : Int32)) hx hb dX8_countingParts_16 (by decide) ?_
    subst hR
    rw [hQ]
    exact W.iret (v := (0 : Int32)) hx hb hr (fun t ht hW => ⟨⟨(0 : Int32), (), rfl, rfl, ⟨by rw [ht]; exact hP, va_K.moved hW.alike hK, by rw [← hAe]; exact hD⟩⟩, hS.F ht⟩) hS.2.2 dX8_countingParts_17

def s_X8_coverOf_c51  : St → St := fun x9 => match x9 with
  | τ_5 => τ_5
def s_X8_coverOf_l51 (a1 : Int32) (k_5 : Nat) : St → St := fun x9 => match x9 with
  | τ_5 => (if (s_X8_holder τ_5 k_5) = a1 then (s_X1_addRight τ_5 k_5 (s_X8_countingParts τ_5 (nI k_5))) else τ_5)
def s_X8_coverOf_c9 (a1 : Int32) : St → St := fun x9 => match x9 with
  | τ_4 => (s_X8_coverOf_c51 (iter (s_X8_coverOf_l51 a1) ((τ_4 814 0).toNatClampNeg - 0) 0 τ_4))
def s_X8_coverOf_l9 (a1 : Int32) (k_4 : Nat) : St → St := fun x9 => match x9 with
  | τ_4 => (if (τ_4 200 k_4) = a1 then (s_X1_addHerd τ_4 k_4) else τ_4)
def s_X8_coverOf (σ : St) (a1 : Int32) : St := (s_X8_coverOf_c9 a1 (iter (s_X8_coverOf_l9 a1) (((s_X1_clear σ) 815 0).toNatClampNeg - 0) 0 (s_X1_clear σ)))
theorem fr_s_X8_coverOf_c51  (s : St) {f : Nat} (h100 : f ≠ 100) (h101 : f ≠ 101) (h102 : f ≠ 102) (h103 : f ≠ 103) (h104 : f ≠ 104) : (s_X8_coverOf_c51 s) f = s f := by
  unfold s_X8_coverOf_c51
  all_goals ((try dsimp only) <;> ((repeat' split) <;> (try simp only [put_fr, ne_eq, not_false_eq_true, h100, h101, h102, h103, h104, fr_s_X1_clear, fr_s_X1_addHerd, fr_s_X1_addRight])))
theorem fr_s_X8_coverOf_l51 (a1 : Int32) (k_5 : Nat) (s : St) {f : Nat} (h100 : f ≠ 100) (h101 : f ≠ 101) (h102 : f ≠ 102) (h103 : f ≠ 103) (h104 : f ≠ 104) : (s_X8_coverOf_l51 a1 k_5 s) f = s f := by
  unfold s_X8_coverOf_l51
  all_goals ((try dsimp only) <;> ((repeat' split) <;> (try simp only [put_fr, ne_eq, not_false_eq_true, h100, h101, h102, h103, h104, fr_s_X1_clear, fr_s_X1_addHerd, fr_s_X1_addRight, fr_s_X8_coverOf_c51])))
theorem fri_s_X8_coverOf_l51 (a1 : Int32) (n k : Nat) (s : St) {f : Nat} (h100 : f ≠ 100) (h101 : f ≠ 101) (h102 : f ≠ 102) (h103 : f ≠ 103) (h104 : f ≠ 104) : (iter (s_X8_coverOf_l51 a1) n k s) f = s f := iter_fr (P := (fun s => s f)) (fun k s => fr_s_X8_coverOf_l51 a1 k s h100 h101 h102 h103 h104) n k s
theorem fr_s_X8_coverOf_c9 (a1 : Int32) (s : St) {f : Nat} (h100 : f ≠ 100) (h101 : f ≠ 101) (h102 : f ≠ 102) (h103 : f ≠ 103) (h104 : f ≠ 104) : (s_X8_coverOf_c9 a1 s) f = s f := by
  unfold s_X8_coverOf_c9
  all_goals ((try dsimp only) <;> ((repeat' split) <;> (try simp only [put_fr, ne_eq, not_false_eq_true, h100, h101, h102, h103, h104, fr_s_X1_clear, fr_s_X1_addHerd, fr_s_X1_addRight, fr_s_X8_coverOf_c51, fri_s_X8_coverOf_l51])))
theorem fr_s_X8_coverOf_l9 (a1 : Int32) (k_4 : Nat) (s : St) {f : Nat} (h100 : f ≠ 100) (h101 : f ≠ 101) (h102 : f ≠ 102) (h103 : f ≠ 103) (h104 : f ≠ 104) : (s_X8_coverOf_l9 a1 k_4 s) f = s f := by
  unfold s_X8_coverOf_l9
  all_goals ((try dsimp only) <;> ((repeat' split) <;> (try simp only [put_fr, ne_eq, not_false_eq_true, h100, h101, h102, h103, h104, fr_s_X1_clear, fr_s_X1_addHerd, fr_s_X1_addRight, fr_s_X8_coverOf_c51, fri_s_X8_coverOf_l51, fr_s_X8_coverOf_c9])))
theorem fri_s_X8_coverOf_l9 (a1 : Int32) (n k : Nat) (s : St) {f : Nat} (h100 : f ≠ 100) (h101 : f ≠ 101) (h102 : f ≠ 102) (h103 : f ≠ 103) (h104 : f ≠ 104) : (iter (s_X8_coverOf_l9 a1) n k s) f = s f := iter_fr (P := (fun s => s f)) (fun k s => fr_s_X8_coverOf_l9 a1 k s h100 h101 h102 h103 h104) n k s
theorem fr_s_X8_coverOf (σ : St) (a1 : Int32) {f : Nat} (h100 : f ≠ 100) (h101 : f ≠ 101) (h102 : f ≠ 102) (h103 : f ≠ 103) (h104 : f ≠ 104) : (s_X8_coverOf σ a1 ) f = σ f := by
  unfold s_X8_coverOf
  all_goals ((try dsimp only) <;> ((repeat' split) <;> (try simp only [put_fr, ne_eq, not_false_eq_true, h100, h101, h102, h103, h104, fr_s_X1_clear, fr_s_X1_addHerd, fr_s_X1_addRight, fr_s_X8_coverOf_c51, fri_s_X8_coverOf_l51, fr_s_X8_coverOf_c9, fri_s_X8_coverOf_l9])))
set_option maxHeartbeats 1000000 in
set_option maxRecDepth 100000 in
theorem k_X8_coverOf (l : Launch) (D : va_G) (ca : Nat → ClassId) (h : Nat) (ad : Nat → Nat) (pa : Nat → Nat → Nat) (tb : Nat) (σ : St) (a1 : Int32) (sz : Nat) (hI : IX σ)  (R : St) (hR : s_X8_coverOf σ a1 = R) : Met l yX8_coverOf wsX8_coverOf ({ frames := 2, cells := 0, slots := 0, locals := 44 }) (va_Pc [.ref h, .int a1] (cw_pre D ca (WC ca h ad pa σ) sz tb)) (va_Qr (fun _ : Unit => True) (fun (_ : Unit) (a9 : Nat) (t : State) => a9 = ad 807 ∧ pw_post D ca (WC ca h ad pa σ) sz (WC ca h ad pa R) t ∧ IX R) (va_A (WC ca h ad pa σ) sz)) 0 0 (va_A (WC ca h ad pa σ) sz) := by
  refine Met.ofW (cc := cX8_coverOf) (maxL := 3) (ret := (some (.object "GrazeBook$Cover"))) (by decide) rfl ?_
  intro p e s m args below meth c s₁ B hml hv
  obtain ⟨rfl, ⟨hsz, hP, hK, hD0⟩, hZ⟩ := hv
  have hx := B.exec
  have hb := B.bytes
  have hr := B.returns
  have hts := atoms_spec (ws := wsX8_coverOf) B.pre
  have hown : s.vm.findClass RX8 = some m.cls := findClass_of_methodNamed B.named
  have hlocks := B.notSynchronized
  have hu2 : ∀ w ∈ u_ws RX2 TX2 8, w ∈ wsX8_coverOf := fun w h => List.mem_cons_of_mem _ (uw2 w h)
  have hu8 : ∀ w ∈ u_ws RX8 TX8 19, w ∈ wsX8_coverOf := fun w h => List.mem_cons_of_mem _ (uw8 w h)
  subst hsz
  have hD := hD0.self (sz := s.heap.size)
  obtain ⟨A, hAe⟩ : ∃ A, A = va_A (WC ca h ad pa σ) s.heap.size := ⟨_, rfl⟩
  rw [← hAe] at hD hZ ⊢
  have hA : ∀ q : Nat, s.heap.size ≤ q → A q := fun q h => by rw [hAe]; exact Or.inr h
  have hS : va_S A s.heap s.heap [] := va_S.rf
  have hl := lv_entry ([.ref h, .int a1]) (n := 3) (Nat.le_of_ble_eq_true rfl)
  rw [lg_entry_eq]
  generalize (lg_sl ([.ref h, .int a1]) ++ List.replicate (3 - (lg_sl ([.ref h, .int a1])).length) Slot.unset).toArray = ls at hl ⊢
  have hl : lv_has ls 3 [(0, .ref h), (1, .int a1)] := hl
  obtain ⟨H, hH⟩ : ∃ H, H = s.heap := ⟨_, rfl⟩
  have hP : va_P D vwCl (WC ca h ad pa σ) H := by rw [hH]; exact hP
  have hS : va_S A s.heap H [] := by rw [hH]; exact hS
  obtain ⟨QQ, hQ⟩ : ∃ Q9, Q9 = MQ below (va_Qr (fun _ : Unit => True) (fun (_ : Unit) (a9 : Nat) (t : State) => a9 = ad 807 ∧ pw_post D ca (WC ca h ad pa σ) s.heap.size (WC ca h ad pa R) t ∧ IX R) A) ([.ref h, .int a1] : List Value).toArray s 0 0 A := ⟨_, rfl⟩
  rw [← hQ]
  show W _ _ _ _ _ _ _ _ _ _ s.heap _ _ _ _ _
  rw [← hH]
  have hR : (s_X8_coverOf_c9 a1 (iter (s_X8_coverOf_l9 a1) (((s_X1_clear σ) 815 0).toNatClampNeg - 0) 0 (s_X1_clear σ))) = R := hR
  refine lv_aload_n hx hb dX8_coverOf_0 rfl (lv_at hl 0 rfl) ?_
  refine va_get (D := D) (ci := 8) (v := .ref (ad 807)) (C := RX8) (T := TX8) (N := 19) hx hb hts hu8 hown hK hP 0 wc_0 rfl 7 (by decide) (hts (.fieldLink RX8 54 "GrazeBook" "cover" "LGrazeBook$Cover;") (List.mem_cons_of_mem _ mw_217)) (fun _ h9 => h9) rfl dX8_coverOf_1 ?_
  have hF := pw_free hD hS hA
  refine va_callv (va_runV (As := []) (rest := []) ⟨hx, hb, hml, hown, hts⟩ (k_X1_clear l D ca h ad pa tb σ H.size hI _ rfl) (cwV 0 hts gX8_coverOf_X1_clear rfl rfl rfl (by decide +kernel) ⟨Nat.le_of_ble_eq_true rfl, Nat.le_of_ble_eq_true rfl⟩) ⟨cw_blind, va_recv hK hP (ci := 1) (q0 := 3) rfl wc_3, cw_give hP hK hD hZ hS hF⟩ rfl rfl hl.1 rfl (lv_room (Nat.le_of_ble_eq_true rfl)) dX8_coverOf_4 ⟨Nat.le_of_ble_eq_true rfl, Nat.le_of_ble_eq_true rfl⟩) hS (fun q _ h => hF q h) hF (fun u t H1 locs ht hvm hw hB hz1 hk1 hS => ?_)
  obtain ⟨hB, hI_2⟩ := hB
  obtain ⟨hP, hD⟩ := pw_back hF ht hB
  clear hB hk1 hz1 hF
  generalize H1 = H at hP hS ⊢
  obtain ⟨τc_3, hτc_3⟩ : ∃ t9, (s_X1_clear σ) = t9 := ⟨_, rfl⟩
  rw [hτc_3] at hP hD hI_2
  (try rw [hτc_3] at hR)
  refine lv_iconst (v := (0 : Int32)) hx hb dX8_coverOf_7 (by decide) ?_
  refine lv_istore_n (lv' := [(2, .int (0 : Int32)), (0, .ref h), (1, .int a1)]) hx hb dX8_coverOf_8 rfl hl (by decide) rfl (fun ls hl => ?_)
  have hE_4 : ∀ (τ_4 : St) (hI_4 : IX τ_4) (hf_4 : τ_4 811 = σ 811 ∧ τ_4 812 = σ 812 ∧ τ_4 814 = σ 814 ∧ τ_4 815 = σ 815) (H : Heap) (locs : List Loc) (ls : Array Slot), s_X8_coverOf_c9 a1 τ_4 = R → va_P D vwCl (WC ca h ad pa τ_4) H → va_D A (WC ca h ad pa τ_4) → va_S A s.heap H locs → lv_has ls 3 [(0, .ref h), (1, .int a1)] → W p l e ((headSpec wsX8_coverOf ({ frames := 2, cells := 0, slots := 0, locals := 44 })).room) s m ([.ref h, .int a1] : List Value).toArray below meth c H locs 0 0 QQ (F0 m 49 ls []) := by
    intro τ_4 hI_4 hf_4 H locs ls hR hP hD hS hl
    have hR : (s_X8_coverOf_c51 (iter (s_X8_coverOf_l51 a1) ((τ_4 814 0).toNatClampNeg - 0) 0 τ_4)) = R := hR
    refine lv_iconst (v := (0 : Int32)) hx hb dX8_coverOf_49 (by decide) ?_
    refine lv_istore_n (lv' := [(2, .int (0 : Int32)), (0, .ref h), (1, .int a1)]) hx hb dX8_coverOf_50 rfl hl (by decide) rfl (fun ls hl => ?_)
    have hE_5 : ∀ (τ_5 : St) (hI_5 : IX τ_5) (hf_5 : τ_5 811 = σ 811 ∧ τ_5 812 = σ 812 ∧ τ_5 814 = σ 814 ∧ τ_5 815 = σ 815) (H : Heap) (locs : List Loc) (ls : Array Slot), s_X8_coverOf_c51 τ_5 = R → va_P D vwCl (WC ca h ad pa τ_5) H → va_D A (WC ca h ad pa τ_5) → va_S A s.heap H locs → lv_has ls 3 [(0, .ref h)] → W p l e ((headSpec wsX8_coverOf ({ frames := 2, cells := 0, slots := 0, locals := 44 })).room) s m ([.ref h, .int a1] : List Value).toArray below meth c H locs 0 0 QQ (F0 m 97 ls []) := by
      intro τ_5 hI_5 hf_5 H locs ls hR hP hD hS hl
      have hR : τ_5 = R := hR
      refine lv_aload_n hx hb dX8_coverOf_97 rfl (lv_at hl 0 rfl) ?_
      refine va_get (D := D) (ci := 8) (v := .ref (ad 807)) (C := RX8) (T := TX8) (N := 19) hx hb hts hu8 hown hK hP 0 wc_0 rfl 7 (by decide) (hts (.fieldLink RX8 54 "GrazeBook" "cover" "LGrazeBook$Cover;") (List.mem_cons_of_mem _ mw_217)) (fun _ h9 => h9) rfl dX8_coverOf_98 ?_
      have hI9 : IX τ_5 := hI_5
      subst hR
      rw [hQ]
      exact W.aret hx hb hr (Or.inl ⟨_, rfl⟩) (Or.inr ⟨_, rfl⟩) (fun t ht hW => ⟨⟨(), (ad 807), rfl, trivial, rfl, ⟨by rw [ht]; exact hP, va_K.moved hW.alike hK, by rw [← hAe]; exact hD⟩, hI9⟩, hS.F ht⟩) hS.2.2 dX8_coverOf_101
    have hL_5 : ∀ (n k_5 : Nat) (τ_5 : St) (hk_5 : lpk (τ_5 814 0) k_5 n) (hI_5 : IX τ_5) (hf_5 : τ_5 811 = σ 811 ∧ τ_5 812 = σ 812 ∧ τ_5 814 = σ 814 ∧ τ_5 815 = σ 815) (H : Heap) (locs : List Loc) (ls : Array Slot), s_X8_coverOf_c51 (iter (s_X8_coverOf_l51 a1) n k_5 τ_5) = R → va_P D vwCl (WC ca h ad pa τ_5) H → va_D A (WC ca h ad pa τ_5) → va_S A s.heap H locs → lv_has ls 3 [(2, .int (nI k_5)), (0, .ref h), (1, .int a1)] → W p l e ((headSpec wsX8_coverOf ({ frames := 2, cells := 0, slots := 0, locals := 44 })).room) s m ([.ref h, .int a1] : List Value).toArray below meth c H locs 0 0 QQ (F0 m 51 ls []) := by
      intro n
      induction n with
      | zero =>
        intro k_5 τ_5 hk_5 hI_5 hf_5 H locs ls hR hP hD hS hl
        refine lv_iload_n hx hb dX8_coverOf_51 rfl (lv_at hl 0 rfl) ?_
        refine lv_aload_n hx hb dX8_coverOf_52 rfl (lv_at hl 1 rfl) ?_
        refine va_get (D := D) (ci := 8) (v := .int (τ_5 814 0)) (C := RX8) (T := TX8) (N := 19) hx hb hts hu8 hown hK hP 0 wc_0 rfl 14 (by decide) (hts (.fieldLink RX8 85 "GrazeBook" "rightCount" "I") (List.mem_cons_of_mem _ mw_224)) (fun _ h9 => h9) rfl dX8_coverOf_53 ?_
        refine lv_icmp_ge (tgt := 97) hx hb dX8_coverOf_56 (by decide) (fun _ => ?_) (fun c_6 => absurd (ge_end hk_5) c_6)
        exact hE_5 τ_5 hI_5 hf_5 _ _ _ hR hP hD hS (lv_sub hl [1] rfl)
      | succ n ih =>
        intro k_5 τ_5 hk_5 hI_5 hf_5 H locs ls hR hP hD hS hl
        obtain ⟨S_5, hB_5⟩ : ∃ s9, s_X8_coverOf_l51 a1 k_5 τ_5 = s9 := ⟨_, rfl⟩
        have hR : s_X8_coverOf_c51 (iter (s_X8_coverOf_l51 a1) n (k_5 + 1) S_5) = R := by rw [← hB_5]; exact hR
        have hB_5 : (if (s_X8_holder τ_5 k_5) = a1 then (s_X1_addRight τ_5 k_5 (s_X8_countingParts τ_5 (nI k_5))) else τ_5) = S_5 := hB_5
        refine lv_iload_n hx hb dX8_coverOf_51 rfl (lv_at hl 0 rfl) ?_
        refine lv_aload_n hx hb dX8_coverOf_52 rfl (lv_at hl 1 rfl) ?_
        refine va_get (D := D) (ci := 8) (v := .int (τ_5 814 0)) (C := RX8) (T := TX8) (N := 19) hx hb hts hu8 hown hK hP 0 wc_0 rfl 14 (by decide) (hts (.fieldLink RX8 85 "GrazeBook" "rightCount" "I") (List.mem_cons_of_mem _ mw_224)) (fun _ h9 => h9) rfl dX8_coverOf_53 ?_
        refine lv_icmp_ge (tgt := 97) hx hb dX8_coverOf_56 (by decide) (fun c_7 => absurd c_7 (ge_go hk_5)) (fun _ => ?_)
        refine lv_aload_n hx hb dX8_coverOf_59 rfl (lv_at hl 1 rfl) ?_
        refine lv_aload_n hx hb dX8_coverOf_60 rfl (lv_at hl 1 rfl) ?_
        refine va_get (D := D) (ci := 8) (v := .ref (ad 804)) (C := RX8) (T := TX8) (N := 19) hx hb hts hu8 hown hK hP 0 wc_0 rfl 4 (by decide) (hts (.fieldLink RX8 34 "GrazeBook" "rights" "[LGrazeBook$Claim;") (List.mem_cons_of_mem _ mw_214)) (fun _ h9 => h9) rfl dX8_coverOf_61 ?_
        refine lv_iload_n hx hb dX8_coverOf_64 rfl (lv_at hl 0 rfl) ?_
        refine va_aldq_k (k := k_5) (b := pa 2 k_5) hx hb hK hP 8 4 wc_8 rfl (ix_cl hk_5) (rf_at (k_ltb hk_5)) (ix_loop (N := 60) hk_5 (ix_814 hI_5) (by decide) (by decide)) dX8_coverOf_65 ?_
        have hF := pw_free hD hS hA
        refine va_calli (va_runV (As := [.ref (pa 2 k_5)]) (rest := []) ⟨hx, hb, hml, hown, hts⟩ (k_X8_holder l D ca h ad pa tb τ_5 k_5 H.size hI_5 (k_ltb hk_5) _ rfl) (cwV 1 hts gX8_coverOf_X8_holder rfl rfl rfl (by decide +kernel) ⟨Nat.le_of_ble_eq_true rfl, Nat.le_of_ble_eq_true rfl⟩) ⟨cw_blind, va_recv hK hP (ci := 8) (q0 := 0) rfl wc_0, cw_give hP hK hD hZ hS hF⟩ rfl rfl hl.1 rfl (lv_room (Nat.le_of_ble_eq_true rfl)) dX8_coverOf_66 ⟨Nat.le_of_ble_eq_true rfl, Nat.le_of_ble_eq_true rfl⟩) hS (fun q _ h => hF q h) hF (fun r_8 u t H1 locs ht hvm hw hB hz1 hk1 hS => ?_)
        rw [hw]
        obtain ⟨hP, hD⟩ := pw_back hF ht hB
        clear hB hk1 hz1 hF
        generalize H1 = H at hP hS ⊢
        refine lv_iload_n hx hb dX8_coverOf_69 rfl (lv_at hl 2 rfl) ?_
        refine lv_icmp_ne (tgt := 91) hx hb dX8_coverOf_70 (by decide) (fun c_9 => ?_) (fun c_9 => ?_)
        · have hB_5 := (if_neg c_9).symm.trans hB_5
          refine lv_iinc (v := (nI (k_5 + 1))) (lv' := [(2, .int (nI (k_5 + 1))), (0, .ref h), (1, .int a1)]) hx hb dX8_coverOf_91 hl (k := 0) rfl (by rw [show Int32.ofInt 1 = 1 from by decide]; exact nI_1 _) (by decide) rfl (fun ls hl => ?_)
          refine lv_goto (tgt := 51) hx hb dX8_coverOf_94 (by decide) ?_
          subst hB_5
          exact ih (k_5 + 1) τ_5 (ge_next hk_5) hI_5 (⟨hf_5.1, hf_5.2.1, hf_5.2.2.1, hf_5.2.2.2⟩) _ _ _ hR hP hD hS (lv_sub hl [0, 1, 2] rfl)
        · have hB_5 := (if_pos c_9).symm.trans hB_5
          refine lv_aload_n hx hb dX8_coverOf_73 rfl (lv_at hl 1 rfl) ?_
          refine va_get (D := D) (ci := 8) (v := .ref (ad 807)) (C := RX8) (T := TX8) (N := 19) hx hb hts hu8 hown hK hP 0 wc_0 rfl 7 (by decide) (hts (.fieldLink RX8 54 "GrazeBook" "cover" "LGrazeBook$Cover;") (List.mem_cons_of_mem _ mw_217)) (fun _ h9 => h9) rfl dX8_coverOf_74 ?_
          refine lv_aload_n hx hb dX8_coverOf_77 rfl (lv_at hl 1 rfl) ?_
          refine va_get (D := D) (ci := 8) (v := .ref (ad 804)) (C := RX8) (T := TX8) (N := 19) hx hb hts hu8 hown hK hP 0 wc_0 rfl 4 (by decide) (hts (.fieldLink RX8 34 "GrazeBook" "rights" "[LGrazeBook$Claim;") (List.mem_cons_of_mem _ mw_214)) (fun _ h9 => h9) rfl dX8_coverOf_78 ?_
          refine lv_iload_n hx hb dX8_coverOf_81 rfl (lv_at hl 0 rfl) ?_
          refine va_aldq_k (k := k_5) (b := pa 2 k_5) hx hb hK hP 8 4 wc_8 rfl (ix_cl hk_5) (rf_at (k_ltb hk_5)) (ix_loop (N := 60) hk_5 (ix_814 hI_5) (by decide) (by decide)) dX8_coverOf_82 ?_
          refine lv_aload_n hx hb dX8_coverOf_83 rfl (lv_at hl 1 rfl) ?_
          refine lv_iload_n hx hb dX8_coverOf_84 rfl (lv_at hl 0 rfl) ?_
          have hF := pw_free hD hS hA
          refine va_calli (va_runV (As := [.int (nI k_5)]) (rest := [.ref (pa 2 k_5), .ref (ad 807)]) ⟨hx, hb, hml, hown, hts⟩ (k_X8_countingParts l D ca h ad pa tb τ_5 (nI k_5) H.size hI_5 (ix_loop (N := 60) hk_5 (ix_814 hI_5) (by decide) (by decide)) (by rw [show (nI k_5).toNatClampNeg = k_5 from (ix_cl hk_5)]; exact (k_ltb hk_5)) _ rfl) (cwV 1 hts gX8_coverOf_X8_countingParts rfl rfl rfl (by decide +kernel) ⟨Nat.le_of_ble_eq_true rfl, Nat.le_of_ble_eq_true rfl⟩) ⟨cw_blind, va_recv hK hP (ci := 8) (q0 := 0) rfl wc_0, cw_give hP hK hD hZ hS hF⟩ rfl rfl hl.1 rfl (lv_room (Nat.le_of_ble_eq_true rfl)) dX8_coverOf_85 ⟨Nat.le_of_ble_eq_true rfl, Nat.le_of_ble_eq_true rfl⟩) hS (fun q _ h => hF q h) hF (fun r_10 u t H1 locs ht hvm hw hB hz1 hk1 hS => ?_)
          rw [hw]
          obtain ⟨hP, hD⟩ := pw_back hF ht hB
          clear hB hk1 hz1 hF
          generalize H1 = H at hP hS ⊢
          have hF := pw_free hD hS hA
          refine va_callv (va_runV (As := [.ref (pa 2 k_5), .int (s_X8_countingParts τ_5 (nI k_5))]) (rest := []) ⟨hx, hb, hml, hown, hts⟩ (k_X1_addRight l D ca h ad pa tb τ_5 k_5 (s_X8_countingParts τ_5 (nI k_5)) H.size hI_5 (k_ltb hk_5) _ rfl) (cwV 2 hts gX8_coverOf_X1_addRight rfl rfl rfl (by decide +kernel) ⟨Nat.le_of_ble_eq_true rfl, Nat.le_of_ble_eq_true rfl⟩) ⟨cw_blind, va_recv hK hP (ci := 1) (q0 := 3) rfl wc_3, cw_give hP hK hD hZ hS hF⟩ rfl rfl hl.1 rfl (lv_room (Nat.le_of_ble_eq_true rfl)) dX8_coverOf_88 ⟨Nat.le_of_ble_eq_true rfl, Nat.le_of_ble_eq_true rfl⟩) hS (fun q _ h => hF q h) hF (fun u t H1 locs ht hvm hw hB hz1 hk1 hS => ?_)
          obtain ⟨hB, hI_12⟩ := hB
          obtain ⟨hP, hD⟩ := pw_back hF ht hB
          clear hB hk1 hz1 hF
          generalize H1 = H at hP hS ⊢
          obtain ⟨τc_13, hτc_13⟩ : ∃ t9, (s_X1_addRight τ_5 k_5 (s_X8_countingParts τ_5 (nI k_5))) = t9 := ⟨_, rfl⟩
          rw [hτc_13] at hP hD hI_12
          (try rw [hτc_13] at hB_5)
          refine lv_iinc (v := (nI (k_5 + 1))) (lv' := [(2, .int (nI (k_5 + 1))), (0, .ref h), (1, .int a1)]) hx hb dX8_coverOf_91 hl (k := 0) rfl (by rw [show Int32.ofInt 1 = 1 from by decide]; exact nI_1 _) (by decide) rfl (fun ls hl => ?_)
          refine lv_goto (tgt := 51) hx hb dX8_coverOf_94 (by decide) ?_
          subst hB_5
          exact ih (k_5 + 1) τc_13 (lpk_cast (congrFun ((show τc_13 814 = τ_5 814 by rw [← hτc_13]; exact fr_s_X1_addRight τ_5 k_5 (s_X8_countingParts τ_5 (nI k_5)) (f := 814) (by decide) (by decide) (by decide)).trans rfl) 0) (ge_next hk_5)) hI_12 (⟨((show τc_13 811 = τ_5 811 by rw [← hτc_13]; exact fr_s_X1_addRight τ_5 k_5 (s_X8_countingParts τ_5 (nI k_5)) (f := 811) (by decide) (by decide) (by decide)).trans (hf_5.1)), ((show τc_13 812 = τ_5 812 by rw [← hτc_13]; exact fr_s_X1_addRight τ_5 k_5 (s_X8_countingParts τ_5 (nI k_5)) (f := 812) (by decide) (by decide) (by decide)).trans (hf_5.2.1)), ((show τc_13 814 = τ_5 814 by rw [← hτc_13]; exact fr_s_X1_addRight τ_5 k_5 (s_X8_countingParts τ_5 (nI k_5)) (f := 814) (by decide) (by decide) (by decide)).trans (hf_5.2.2.1)), ((show τc_13 815 = τ_5 815 by rw [← hτc_13]; exact fr_s_X1_addRight τ_5 k_5 (s_X8_countingParts τ_5 (nI k_5)) (f := 815) (by decide) (by decide) (by decide)).trans (hf_5.2.2.2))⟩) _ _ _ hR hP hD hS (lv_sub hl [0, 1, 2] rfl)
    exact hL_5 _ 0 τ_4 ⟨rfl, by decide⟩ hI_4 (⟨hf_4.1, hf_4.2.1, hf_4.2.2.1, hf_4.2.2.2⟩) _ _ _ hR hP hD hS (lv_sub hl [0, 1, 2] rfl)
  have hL_4 : ∀ (n k_4 : Nat) (τ_4 : St) (hk_4 : lpk (τ_4 815 0) k_4 n) (hI_4 : IX τ_4) (hf_4 : τ_4 811 = σ 811 ∧ τ_4 812 = σ 812 ∧ τ_4 814 = σ 814 ∧ τ_4 815 = σ 815) (H : Heap) (locs : List Loc) (ls : Array Slot), s_X8_coverOf_c9 a1 (iter (s_X8_coverOf_l9 a1) n k_4 τ_4) = R → va_P D vwCl (WC ca h ad pa τ_4) H → va_D A (WC ca h ad pa τ_4) → va_S A s.heap H locs → lv_has ls 3 [(2, .int (nI k_4)), (0, .ref h), (1, .int a1)] → W p l e ((headSpec wsX8_coverOf ({ frames := 2, cells := 0, slots := 0, locals := 44 })).room) s m ([.ref h, .int a1] : List Value).toArray below meth c H locs 0 0 QQ (F0 m 9 ls []) := by
    intro n
    induction n with
    | zero =>
      intro k_4 τ_4 hk_4 hI_4 hf_4 H locs ls hR hP hD hS hl
      refine lv_iload_n hx hb dX8_coverOf_9 rfl (lv_at hl 0 rfl) ?_
      refine lv_aload_n hx hb dX8_coverOf_10 rfl (lv_at hl 1 rfl) ?_
      refine va_get (D := D) (ci := 8) (v := .int (τ_4 815 0)) (C := RX8) (T := TX8) (N := 19) hx hb hts hu8 hown hK hP 0 wc_0 rfl 15 (by decide) (hts (.fieldLink RX8 88 "GrazeBook" "herdCount" "I") (List.mem_cons_of_mem _ mw_225)) (fun _ h9 => h9) rfl dX8_coverOf_11 ?_
      refine lv_icmp_ge (tgt := 49) hx hb dX8_coverOf_14 (by decide) (fun _ => ?_) (fun c_14 => absurd (ge_end hk_4) c_14)
      exact hE_4 τ_4 hI_4 hf_4 _ _ _ hR hP hD hS (lv_sub hl [1, 2] rfl)
    | succ n ih =>
      intro k_4 τ_4 hk_4 hI_4 hf_4 H locs ls hR hP hD hS hl
      obtain ⟨S_4, hB_4⟩ : ∃ s9, s_X8_coverOf_l9 a1 k_4 τ_4 = s9 := ⟨_, rfl⟩
      have hR : s_X8_coverOf_c9 a1 (iter (s_X8_coverOf_l9 a1) n (k_4 + 1) S_4) = R := by rw [← hB_4]; exact hR
      have hB_4 : (if (τ_4 200 k_4) = a1 then (s_X1_addHerd τ_4 k_4) else τ_4) = S_4 := hB_4
      refine lv_iload_n hx hb dX8_coverOf_9 rfl (lv_at hl 0 rfl) ?_
      refine lv_aload_n hx hb dX8_coverOf_10 rfl (lv_at hl 1 rfl) ?_
      refine va_get (D := D) (ci := 8) (v := .int (τ_4 815 0)) (C := RX8) (T := TX8) (N := 19) hx hb hts hu8 hown hK hP 0 wc_0 rfl 15 (by decide) (hts (.fieldLink RX8 88 "GrazeBook" "herdCount" "I") (List.mem_cons_of_mem _ mw_225)) (fun _ h9 => h9) rfl dX8_coverOf_11 ?_
      refine lv_icmp_ge (tgt := 49) hx hb dX8_coverOf_14 (by decide) (fun c_15 => absurd c_15 (ge_go hk_4)) (fun _ => ?_)
      refine lv_aload_n hx hb dX8_coverOf_17 rfl (lv_at hl 1 rfl) ?_
      refine va_get (D := D) (ci := 8) (v := .ref (ad 805)) (C := RX8) (T := TX8) (N := 19) hx hb hts hu8 hown hK hP 0 wc_0 rfl 5 (by decide) (hts (.fieldLink RX8 40 "GrazeBook" "herds" "[LGrazeBook$Drove;") (List.mem_cons_of_mem _ mw_215)) (fun _ h9 => h9) rfl dX8_coverOf_18 ?_
      refine lv_iload_n hx hb dX8_coverOf_21 rfl (lv_at hl 0 rfl) ?_
      refine va_aldq_k (k := k_4) (b := pa 3 k_4) hx hb hK hP 9 5 wc_9 rfl (ix_cl hk_4) (rf_at (k_ltb hk_4)) (ix_loop (N := 20) hk_4 (ix_815 hI_4) (by decide) (by decide)) dX8_coverOf_22 ?_
      refine va_get (D := D) (ci := 2) (v := .int (τ_4 200 k_4)) (C := RX2) (T := TX2) (N := 8) hx hb hts hu2 hown hK hP (pcD ca h ad pa τ_4 k_4) (wc_aD (k_ltb hk_4)) rfl 0 (by decide) (hts (.fieldLink RX8 169 "GrazeBook$Drove" "owner" "I") (List.mem_cons_of_mem _ mw_441)) (fun _ h9 => h9) rfl dX8_coverOf_23 ?_
      refine lv_iload_n hx hb dX8_coverOf_26 rfl (lv_at hl 2 rfl) ?_
      refine lv_icmp_ne (tgt := 43) hx hb dX8_coverOf_27 (by decide) (fun c_16 => ?_) (fun c_16 => ?_)
      · have hB_4 := (if_neg c_16).symm.trans hB_4
        refine lv_iinc (v := (nI (k_4 + 1))) (lv' := [(2, .int (nI (k_4 + 1))), (0, .ref h), (1, .int a1)]) hx hb dX8_coverOf_43 hl (k := 0) rfl (by rw [show Int32.ofInt 1 = 1 from by decide]; exact nI_1 _) (by decide) rfl (fun ls hl => ?_)
        refine lv_goto (tgt := 9) hx hb dX8_coverOf_46 (by decide) ?_
        subst hB_4
        exact ih (k_4 + 1) τ_4 (ge_next hk_4) hI_4 (⟨hf_4.1, hf_4.2.1, hf_4.2.2.1, hf_4.2.2.2⟩) _ _ _ hR hP hD hS (lv_sub hl [0, 1, 2] rfl)
      · have hB_4 := (if_pos c_16).symm.trans hB_4
        refine lv_aload_n hx hb dX8_coverOf_30 rfl (lv_at hl 1 rfl) ?_
        refine va_get (D := D) (ci := 8) (v := .ref (ad 807)) (C := RX8) (T := TX8) (N := 19) hx hb hts hu8 hown hK hP 0 wc_0 rfl 7 (by decide) (hts (.fieldLink RX8 54 "GrazeBook" "cover" "LGrazeBook$Cover;") (List.mem_cons_of_mem _ mw_217)) (fun _ h9 => h9) rfl dX8_coverOf_31 ?_
        refine lv_aload_n hx hb dX8_coverOf_34 rfl (lv_at hl 1 rfl) ?_
        refine va_get (D := D) (ci := 8) (v := .ref (ad 805)) (C := RX8) (T := TX8) (N := 19) hx hb hts hu8 hown hK hP 0 wc_0 rfl 5 (by decide) (hts (.fieldLink RX8 40 "GrazeBook" "herds" "[LGrazeBook$Drove;") (List.mem_cons_of_mem _ mw_215)) (fun _ h9 => h9) rfl dX8_coverOf_35 ?_
        refine lv_iload_n hx hb dX8_coverOf_38 rfl (lv_at hl 0 rfl) ?_
        refine va_aldq_k (k := k_4) (b := pa 3 k_4) hx hb hK hP 9 5 wc_9 rfl (ix_cl hk_4) (rf_at (k_ltb hk_4)) (ix_loop (N := 20) hk_4 (ix_815 hI_4) (by decide) (by decide)) dX8_coverOf_39 ?_
        have hF := pw_free hD hS hA
        refine va_callv (va_runV (As := [.ref (pa 3 k_4)]) (rest := []) ⟨hx, hb, hml, hown, hts⟩ (k_X1_addHerd l D ca h ad pa tb τ_4 k_4 H.size hI_4 (k_ltb hk_4) _ rfl) (cwV 1 hts gX8_coverOf_X1_addHerd rfl rfl rfl (by decide +kernel) ⟨Nat.le_of_ble_eq_true rfl, Nat.le_of_ble_eq_true rfl⟩) ⟨cw_blind, va_recv hK hP (ci := 1) (q0 := 3) rfl wc_3, cw_give hP hK hD hZ hS hF⟩ rfl rfl hl.1 rfl (lv_room (Nat.le_of_ble_eq_true rfl)) dX8_coverOf_40 ⟨Nat.le_of_ble_eq_true rfl, Nat.le_of_ble_eq_true rfl⟩) hS (fun q _ h => hF q h) hF (fun u t H1 locs ht hvm hw hB hz1 hk1 hS => ?_)
        obtain ⟨hB, hI_18⟩ := hB
        obtain ⟨hP, hD⟩ := pw_back hF ht hB
        clear hB hk1 hz1 hF
        generalize H1 = H at hP hS ⊢
        obtain ⟨τc_19, hτc_19⟩ : ∃ t9, (s_X1_addHerd τ_4 k_4) = t9 := ⟨_, rfl⟩
        rw [hτc_19] at hP hD hI_18
        (try rw [hτc_19] at hB_4)
        refine lv_iinc (v := (nI (k_4 + 1))) (lv' := [(2, .int (nI (k_4 + 1))), (0, .ref h), (1, .int a1)]) hx hb dX8_coverOf_43 hl (k := 0) rfl (by rw [show Int32.ofInt 1 = 1 from by decide]; exact nI_1 _) (by decide) rfl (fun ls hl => ?_)
        refine lv_goto (tgt := 9) hx hb dX8_coverOf_46 (by decide) ?_
        subst hB_4
        exact ih (k_4 + 1) τc_19 (lpk_cast (congrFun ((show τc_19 815 = τ_4 815 by rw [← hτc_19]; exact fr_s_X1_addHerd τ_4 k_4 (f := 815) (by decide) (by decide)).trans rfl) 0) (ge_next hk_4)) hI_18 (⟨((show τc_19 811 = τ_4 811 by rw [← hτc_19]; exact fr_s_X1_addHerd τ_4 k_4 (f := 811) (by decide) (by decide)).trans (hf_4.1)), ((show τc_19 812 = τ_4 812 by rw [← hτc_19]; exact fr_s_X1_addHerd τ_4 k_4 (f := 812) (by decide) (by decide)).trans (hf_4.2.1)), ((show τc_19 814 = τ_4 814 by rw [← hτc_19]; exact fr_s_X1_addHerd τ_4 k_4 (f := 814) (by decide) (by decide)).trans (hf_4.2.2.1)), ((show τc_19 815 = τ_4 815 by rw [← hτc_19]; exact fr_s_X1_addHerd τ_4 k_4 (f := 815) (by decide) (by decide)).trans (hf_4.2.2.2))⟩) _ _ _ hR hP hD hS (lv_sub hl [0, 1, 2] rfl)
  exact hL_4 _ 0 τc_3 ⟨rfl, by decide⟩ hI_2 (⟨((show τc_3 811 = σ 811 by rw [← hτc_3]; exact fr_s_X1_clear σ (f := 811) (by decide) (by decide) (by decide) (by decide) (by decide)).trans rfl), ((show τc_3 812 = σ 812 by rw [← hτc_3]; exact fr_s_X1_clear σ (f := 812) (by decide) (by decide) (by decide) (by decide) (by decide)).trans rfl), ((show τc_3 814 = σ 814 by rw [← hτc_3]; exact fr_s_X1_clear σ (f := 814) (by decide) (by decide) (by decide) (by decide) (by decide)).trans rfl), ((show τc_3 815 = σ 815 by rw [← hτc_3]; exact fr_s_X1_clear σ (f := 815) (by decide) (by decide) (by decide) (by decide) (by decide)).trans rfl)⟩) _ _ _ hR hP hD hS (lv_sub hl [0, 1, 2] rfl)

def s_X8_lackOf (σ : St) (a1 : Int32) : Int32 × St := ((s_X1_lack (s_X8_coverOf σ a1)), (s_X8_coverOf σ a1))
theorem fr_s_X8_lackOf (σ : St) (a1 : Int32) {f : Nat} (h100 : f ≠ 100) (h101 : f ≠ 101) (h102 : f ≠ 102) (h103 : f ≠ 103) (h104 : f ≠ 104) : (s_X8_lackOf σ a1 ).2 f = σ f := by
  unfold s_X8_lackOf
  all_goals ((try dsimp only) <;> ((repeat' split) <;> (try simp only [put_fr, ne_eq, not_false_eq_true, h100, h101, h102, h103, h104, fr_s_X8_coverOf])))
set_option maxHeartbeats 1000000 in
set_option maxRecDepth 100000 in
theorem k_X8_lackOf (l : Launch) (D : va_G) (ca : Nat → ClassId) (h : Nat) (ad : Nat → Nat) (pa : Nat → Nat → Nat) (tb : Nat) (σ : St) (a1 : Int32) (sz : Nat) (hI : IX σ)  (R1 : Int32) (R2 : St) (hR : s_X8_lackOf σ a1 = (R1, R2)) : Met l yX8_lackOf wsX8_lackOf ({ frames := 3, cells := 0, slots := 0, locals := 66 }) (va_Pc [.ref h, .int a1] (cw_pre D ca (WC ca h ad pa σ) sz tb)) (va_Qi (fun (r : Int32) (_ : Unit) => r = R1) (fun (_ : Unit) (t : State) => pw_post D ca (WC ca h ad pa σ) sz (WC ca h ad pa R2) t ∧ IX R2) (va_A (WC ca h ad pa σ) sz)) 0 0 (va_A (WC ca h ad pa σ) sz) := by
  refine Met.ofW (cc := cX8_lackOf) (maxL := 2) (ret := (some .int)) (by decide) rfl ?_
  intro p e s m args below meth c s₁ B hml hv
  obtain ⟨rfl, ⟨hsz, hP, hK, hD0⟩, hZ⟩ := hv
  have hx := B.exec
  have hb := B.bytes
  have hr := B.returns
  have hts := atoms_spec (ws := wsX8_lackOf) B.pre
  have hown : s.vm.findClass RX8 = some m.cls := findClass_of_methodNamed B.named
  have hlocks := B.notSynchronized
  subst hsz
  have hD := hD0.self (sz := s.heap.size)
  obtain ⟨A, hAe⟩ : ∃ A, A = va_A (WC ca h ad pa σ) s.heap.size := ⟨_, rfl⟩
  rw [← hAe] at hD hZ ⊢
  have hA : ∀ q : Nat, s.heap.size ≤ q → A q := fun q h => by rw [hAe]; exact Or.inr h
  have hS : va_S A s.heap s.heap [] := va_S.rf
  have hl := lv_entry ([.ref h, .int a1]) (n := 2) (Nat.le_of_ble_eq_true rfl)
  rw [lg_entry_eq]
  generalize (lg_sl ([.ref h, .int a1]) ++ List.replicate (2 - (lg_sl ([.ref h, .int a1])).length) Slot.unset).toArray = ls at hl ⊢
  have hl : lv_has ls 2 [(0, .ref h), (1, .int a1)] := hl
  obtain ⟨H, hH⟩ : ∃ H, H = s.heap := ⟨_, rfl⟩
  have hP : va_P D vwCl (WC ca h ad pa σ) H := by rw [hH]; exact hP
  have hS : va_S A s.heap H [] := by rw [hH]; exact hS
  obtain ⟨QQ, hQ⟩ : ∃ Q9, Q9 = MQ below (va_Qi (fun (r : Int32) (_ : Unit) => r = R1) (fun (_ : Unit) (t : State) => pw_post D ca (WC ca h ad pa σ) s.heap.size (WC ca h ad pa R2) t ∧ IX R2) A) ([.ref h, .int a1] : List Value).toArray s 0 0 A := ⟨_, rfl⟩
  rw [← hQ]
  show W _ _ _ _ _ _ _ _ _ _ s.heap _ _ _ _ _
  rw [← hH]
  delta s_X8_lackOf at hR
  refine lv_aload_n hx hb dX8_lackOf_0 rfl (lv_at hl 0 rfl) ?_
  refine lv_iload_n hx hb dX8_lackOf_1 rfl (lv_at hl 1 rfl) ?_
  have hF := pw_free hD hS hA
  refine va_callr (va_runV (As := [.int a1]) (rest := []) ⟨hx, hb, hml, hown, hts⟩ (k_X8_coverOf l D ca h ad pa tb σ a1 H.size hI _ rfl) (cwV 1 hts gX8_lackOf_X8_coverOf rfl rfl rfl (by decide +kernel) ⟨Nat.le_of_ble_eq_true rfl, Nat.le_of_ble_eq_true rfl⟩) ⟨cw_blind, va_recv hK hP (ci := 8) (q0 := 0) rfl wc_0, cw_give hP hK hD hZ hS hF⟩ rfl rfl hl.1 rfl (lv_room (Nat.le_of_ble_eq_true rfl)) dX8_lackOf_2 ⟨Nat.le_of_ble_eq_true rfl, Nat.le_of_ble_eq_true rfl⟩) hS (fun q _ h => hF q h) hF (fun u r_1 t H1 locs ht hvm hw hB hz1 hk1 hS => ?_)
  obtain ⟨er_1, hB⟩ := hB
  subst er_1
  obtain ⟨hB, hI_2⟩ := hB
  obtain ⟨hP, hD⟩ := pw_back hF ht hB
  clear hB hk1 hz1 hF
  generalize H1 = H at hP hS ⊢
  obtain ⟨τc_3, hτc_3⟩ : ∃ t9, (s_X8_coverOf σ a1) = t9 := ⟨_, rfl⟩
  rw [hτc_3] at hP hD hI_2
  (try rw [hτc_3] at hR)
  have hF := pw_free hD hS hA
  refine va_calli (va_runV (As := []) (rest := []) ⟨hx, hb, hml, hown, hts⟩ (k_X1_lack l D ca h ad pa tb τc_3 H.size hI_2 _ rfl) (cwV 0 hts gX8_lackOf_X1_lack rfl rfl rfl (by decide +kernel) ⟨Nat.le_of_ble_eq_true rfl, Nat.le_of_ble_eq_true rfl⟩) ⟨cw_blind, va_recv hK hP (ci := 1) (q0 := 3) rfl wc_3, cw_give hP hK hD hZ hS hF⟩ rfl rfl hl.1 rfl (lv_room (Nat.le_of_ble_eq_true rfl)) dX8_lackOf_5 ⟨Nat.le_of_ble_eq_true rfl, Nat.le_of_ble_eq_true rfl⟩) hS (fun q _ h => hF q h) hF (fun r_4 u t H1 locs ht hvm hw hB hz1 hk1 hS => ?_)
  rw [hw]
  obtain ⟨hP, hD⟩ := pw_back hF ht hB
  clear hB hk1 hz1 hF
  generalize H1 = H at hP hS ⊢
  have hI9 : IX τc_3 := hI_2
  obtain ⟨rfl, rfl⟩ := Prod.mk.inj (show ((s_X1_lack τc_3), τc_3) = (R1, R2) from hR)
  rw [hQ]
  exact W.iret (v := (s_X1_lack τc_3)) hx hb hr (fun t ht hW => ⟨⟨(s_X1_lack τc_3), (), rfl, rfl, ⟨by rw [ht]; exact hP, va_K.moved hW.alike hK, by rw [← hAe]; exact hD⟩, hI9⟩, hS.F ht⟩) hS.2.2 dX8_lackOf_8

def s_X8_rightsInForce_c4  : Int32 → Int32 := fun x9 => match x9 with
  | v1_1 => v1_1
def s_X8_rightsInForce_l4 (σ : St) (k_1 : Nat) : Int32 → Int32 := fun x9 => match x9 with
  | v1_1 => (if (s_X0_isInForce σ k_1 (σ 816 0)) = (0 : Int32) then v1_1 else (v1_1 + (1 : Int32)))
def s_X8_rightsInForce (σ : St) : Int32 := (s_X8_rightsInForce_c4 (iter (s_X8_rightsInForce_l4 σ) ((σ 814 0).toNatClampNeg - 0) 0 (0 : Int32)))
set_option maxHeartbeats 1000000 in
set_option maxRecDepth 100000 in
theorem k_X8_rightsInForce (l : Launch) (D : va_G) (ca : Nat → ClassId) (h : Nat) (ad : Nat → Nat) (pa : Nat → Nat → Nat) (tb : Nat) (σ : St) (sz : Nat) (hI : IX σ)  (R : Int32) (hR : s_X8_rightsInForce σ = R) : Met l yX8_rightsInForce wsX8_rightsInForce ({ frames := 1, cells := 0, slots := 0, locals := 21 }) (va_Pc [.ref h] (cw_pre D ca (WC ca h ad pa σ) sz tb)) (va_Qi (fun (r : Int32) (_ : Unit) => r = R) (fun (_ : Unit) (t : State) => pw_post D ca (WC ca h ad pa σ) sz (WC ca h ad pa σ) t) (va_A (WC ca h ad pa σ) sz)) 0 0 (va_A (WC ca h ad pa σ) sz) := by
  refine Met.ofW (cc := cX8_rightsInForce) (maxL := 3) (ret := (some .int)) (by decide) rfl ?_
  intro p e s m args below meth c s₁ B hml hv
  obtain ⟨rfl, ⟨hsz, hP, hK, hD0⟩, hZ⟩ := hv
  have hx := B.exec
  have hb := B.bytes
  have hr := B.returns
  have hts := atoms_spec (ws := wsX8_rightsInForce) B.pre
  have hown : s.vm.findClass RX8 = some m.cls := findClass_of_methodNamed B.named
  have hlocks := B.notSynchronized
  have hu8 : ∀ w ∈ u_ws RX8 TX8 19, w ∈ wsX8_rightsInForce := fun w h => List.mem_cons_of_mem _ (uw8 w h)
  subst hsz
  have hD := hD0.self (sz := s.heap.size)
  obtain ⟨A, hAe⟩ : ∃ A, A = va_A (WC ca h ad pa σ) s.heap.size := ⟨_, rfl⟩
  rw [← hAe] at hD hZ ⊢
  have hA : ∀ q : Nat, s.heap.size ≤ q → A q := fun q h => by rw [hAe]; exact Or.inr h
  have hS : va_S A s.heap s.heap [] := va_S.rf
  have hl := lv_entry ([.ref h]) (n := 3) (Nat.le_of_ble_eq_true rfl)
  rw [lg_entry_eq]
  generalize (lg_sl ([.ref h]) ++ List.replicate (3 - (lg_sl ([.ref h])).length) Slot.unset).toArray = ls at hl ⊢
  have hl : lv_has ls 3 [(0, .ref h)] := hl
  obtain ⟨H, hH⟩ : ∃ H, H = s.heap := ⟨_, rfl⟩
  have hP : va_P D vwCl (WC ca h ad pa σ) H := by rw [hH]; exact hP
  have hS : va_S A s.heap H [] := by rw [hH]; exact hS
  obtain ⟨QQ, hQ⟩ : ∃ Q9, Q9 = MQ below (va_Qi (fun (r : Int32) (_ : Unit) => r = R) (fun (_ : Unit) (t : State) => pw_post D ca (WC ca h ad pa σ) s.heap.size (WC ca h ad pa σ) t) A) ([.ref h] : List Value).toArray s 0 0 A := ⟨_, rfl⟩
  rw [← hQ]
  show W _ _ _ _ _ _ _ _ _ _ s.heap _ _ _ _ _
  rw [← hH]
  have hR : (s_X8_rightsInForce_c4 (iter (s_X8_rightsInForce_l4 σ) ((σ 814 0).toNatClampNeg - 0) 0 (0 : Int32))) = R := hR
  refine lv_iconst (v := (0 : Int32)) hx hb dX8_rightsInForce_0 (by decide) ?_
  refine lv_istore_n (lv' := [(1, .int (0 : Int32)), (0, .ref h)]) hx hb dX8_rightsInForce_1 rfl hl (by decide) rfl (fun ls hl => ?_)
  refine lv_iconst (v := (0 : Int32)) hx hb dX8_rightsInForce_2 (by decide) ?_
  refine lv_istore_n (lv' := [(2, .int (0 : Int32)), (1, .int (0 : Int32)), (0, .ref h)]) hx hb dX8_rightsInForce_3 rfl hl (by decide) rfl (fun ls hl => ?_)
  have hE_1 : ∀ (v1_1 : Int32) (H : Heap) (locs : List Loc) (ls : Array Slot), s_X8_rightsInForce_c4 v1_1 = R → va_P D vwCl (WC ca h ad pa σ) H → va_D A (WC ca h ad pa σ) → va_S A s.heap H locs → lv_has ls 3 [(1, .int v1_1)] → W p l e ((headSpec wsX8_rightsInForce ({ frames := 1, cells := 0, slots := 0, locals := 21 })).room) s m ([.ref h] : List Value).toArray below meth c H locs 0 0 QQ (F0 m 37 ls []) := by
    intro v1_1 H locs ls hR hP hD hS hl
    have hR : v1_1 = R := hR
    refine lv_iload_n hx hb dX8_rightsInForce_37 rfl (lv_at hl 0 rfl) ?_
    subst hR
    rw [hQ]
    exact W.iret (v := v1_1) hx hb hr (fun t ht hW => ⟨⟨v1_1, (), rfl, rfl, ⟨by rw [ht]; exact hP, va_K.moved hW.alike hK, by rw [← hAe]; exact hD⟩⟩, hS.F ht⟩) hS.2.2 dX8_rightsInForce_38
  have hL_1 : ∀ (n k_1 : Nat) (v1_1 : Int32) (hk_1 : lpk (σ 814 0) k_1 n) (H : Heap) (locs : List Loc) (ls : Array Slot), s_X8_rightsInForce_c4 (iter (s_X8_rightsInForce_l4 σ) n k_1 v1_1) = R → va_P D vwCl (WC ca h ad pa σ) H → va_D A (WC ca h ad pa σ) → va_S A s.heap H locs → lv_has ls 3 [(2, .int (nI k_1)), (1, .int v1_1), (0, .ref h)] → W p l e ((headSpec wsX8_rightsInForce ({ frames := 1, cells := 0, slots := 0, locals := 21 })).room) s m ([.ref h] : List Value).toArray below meth c H locs 0 0 QQ (F0 m 4 ls []) := by
    intro n
    induction n with
    | zero =>
      intro k_1 v1_1 hk_1 H locs ls hR hP hD hS hl
      refine lv_iload_n hx hb dX8_rightsInForce_4 rfl (lv_at hl 0 rfl) ?_
      refine lv_aload_n hx hb dX8_rightsInForce_5 rfl (lv_at hl 2 rfl) ?_
      refine va_get (D := D) (ci := 8) (v := .int (σ 814 0)) (C := RX8) (T := TX8) (N := 19) hx hb hts hu8 hown hK hP 0 wc_0 rfl 14 (by decide) (hts (.fieldLink RX8 85 "GrazeBook" "rightCount" "I") (List.mem_cons_of_mem _ mw_224)) (fun _ h9 => h9) rfl dX8_rightsInForce_6 ?_
      refine lv_icmp_ge (tgt := 37) hx hb dX8_rightsInForce_9 (by decide) (fun _ => ?_) (fun c_2 => absurd (ge_end hk_1) c_2)
      exact hE_1 v1_1 _ _ _ hR hP hD hS (lv_sub hl [1] rfl)
    | succ n ih =>
      intro k_1 v1_1 hk_1 H locs ls hR hP hD hS hl
      obtain ⟨S_1, hB_1⟩ : ∃ s9, s_X8_rightsInForce_l4 σ k_1 v1_1 = s9 := ⟨_, rfl⟩
      have hR : s_X8_rightsInForce_c4 (iter (s_X8_rightsInForce_l4 σ) n (k_1 + 1) S_1) = R := by rw [← hB_1]; exact hR
      have hB_1 : (if (s_X0_isInForce σ k_1 (σ 816 0)) = (0 : Int32) then v1_1 else (v1_1 + (1 : Int32))) = S_1 := hB_1
      refine lv_iload_n hx hb dX8_rightsInForce_4 rfl (lv_at hl 0 rfl) ?_
      refine lv_aload_n hx hb dX8_rightsInForce_5 rfl (lv_at hl 2 rfl) ?_
      refine va_get (D := D) (ci := 8) (v := .int (σ 814 0)) (C := RX8) (T := TX8) (N := 19) hx hb hts hu8 hown hK hP 0 wc_0 rfl 14 (by decide) (hts (.fieldLink RX8 85 "GrazeBook" "rightCount" "I") (List.mem_cons_of_mem _ mw_224)) (fun _ h9 => h9) rfl dX8_rightsInForce_6 ?_
      refine lv_icmp_ge (tgt := 37) hx hb dX8_rightsInForce_9 (by decide) (fun c_3 => absurd c_3 (ge_go hk_1)) (fun _ => ?_)
      refine lv_aload_n hx hb dX8_rightsInForce_12 rfl (lv_at hl 2 rfl) ?_
      refine va_get (D := D) (ci := 8) (v := .ref (ad 804)) (C := RX8) (T := TX8) (N := 19) hx hb hts hu8 hown hK hP 0 wc_0 rfl 4 (by decide) (hts (.fieldLink RX8 34 "GrazeBook" "rights" "[LGrazeBook$Claim;") (List.mem_cons_of_mem _ mw_214)) (fun _ h9 => h9) rfl dX8_rightsInForce_13 ?_
      refine lv_iload_n hx hb dX8_rightsInForce_16 rfl (lv_at hl 0 rfl) ?_
      refine va_aldq_k (k := k_1) (b := pa 2 k_1) hx hb hK hP 8 4 wc_8 rfl (ix_cl hk_1) (rf_at (k_ltb hk_1)) (ix_loop (N := 60) hk_1 (ix_814 hI) (by decide) (by decide)) dX8_rightsInForce_17 ?_
      refine lv_aload_n hx hb dX8_rightsInForce_18 rfl (lv_at hl 2 rfl) ?_
      refine va_get (D := D) (ci := 8) (v := .int (σ 816 0)) (C := RX8) (T := TX8) (N := 19) hx hb hts hu8 hown hK hP 0 wc_0 rfl 16 (by decide) (hts (.fieldLink RX8 91 "GrazeBook" "day" "I") (List.mem_cons_of_mem _ mw_226)) (fun _ h9 => h9) rfl dX8_rightsInForce_19 ?_
      have hF := pw_free hD hS hA
      refine va_calli (va_runV (As := [.int (σ 816 0)]) (rest := []) ⟨hx, hb, hml, hown, hts⟩ (k_X0_isInForce l D ca h ad pa tb σ k_1 (σ 816 0) H.size hI (k_ltb hk_1) _ rfl) (cwV 1 hts gX8_rightsInForce_X0_isInForce rfl rfl rfl (by decide +kernel) ⟨Nat.le_of_ble_eq_true rfl, Nat.le_of_ble_eq_true rfl⟩) ⟨cw_blind, va_recv hK hP (ci := 0) (q0 := (pcC ca h ad pa σ k_1)) rfl (wc_aC (k_ltb hk_1)), cw_give hP hK hD hZ hS hF⟩ rfl rfl hl.1 rfl (lv_room (Nat.le_of_ble_eq_true rfl)) dX8_rightsInForce_22 ⟨Nat.le_of_ble_eq_true rfl, Nat.le_of_ble_eq_true rfl⟩) hS (fun q _ h => hF q h) hF (fun r_4 u t H1 locs ht hvm hw hB hz1 hk1 hS => ?_)
      rw [hw]
      obtain ⟨hP, hD⟩ := pw_back hF ht hB
      clear hB hk1 hz1 hF
      generalize H1 = H at hP hS ⊢
      refine lv_if_eq (tgt := 31) hx hb dX8_rightsInForce_25 (by decide) (fun c_5 => ?_) (fun c_5 => ?_)
      · have hB_1 := (if_pos c_5).symm.trans hB_1
        refine lv_iinc (v := (nI (k_1 + 1))) (lv' := [(2, .int (nI (k_1 + 1))), (1, .int v1_1), (0, .ref h)]) hx hb dX8_rightsInForce_31 hl (k := 0) rfl (by rw [show Int32.ofInt 1 = 1 from by decide]; exact nI_1 _) (by decide) rfl (fun ls hl => ?_)
        refine lv_goto (tgt := 4) hx hb dX8_rightsInForce_34 (by decide) ?_
        subst hB_1
        exact ih (k_1 + 1) v1_1 (ge_next hk_1)  _ _ _ hR hP hD hS (lv_sub hl [0, 1, 2] rfl)
      · have hB_1 := (if_neg c_5).symm.trans hB_1
        refine lv_iinc (v := (v1_1 + (1 : Int32))) (lv' := [(1, .int (v1_1 + (1 : Int32))), (2, .int (nI k_1)), (0, .ref h)]) hx hb dX8_rightsInForce_28 hl (k := 1) rfl (by rw [show Int32.ofInt (1) = (1 : Int32) from by decide]) (by decide) rfl (fun ls hl => ?_)
        refine lv_iinc (v := (nI (k_1 + 1))) (lv' := [(2, .int (nI (k_1 + 1))), (1, .int (v1_1 + (1 : Int32))), (0, .ref h)]) hx hb dX8_rightsInForce_31 hl (k := 1) rfl (by rw [show Int32.ofInt 1 = 1 from by decide]; exact nI_1 _) (by decide) rfl (fun ls hl => ?_)
        refine lv_goto (tgt := 4) hx hb dX8_rightsInForce_34 (by decide) ?_
        subst hB_1
        exact ih (k_1 + 1) (v1_1 + (1 : Int32)) (ge_next hk_1)  _ _ _ hR hP hD hS (lv_sub hl [0, 1, 2] rfl)
  exact hL_1 _ 0 (0 : Int32) ⟨rfl, by decide⟩  _ _ _ hR hP hD hS (lv_sub hl [0, 1, 2] rfl)

def s_X8_partsOn_c4  : Int32 → Int32 := fun x9 => match x9 with
  | v2_1 => v2_1
def s_X8_partsOn_l4 (σ : St) (a1 : Int32) (k_1 : Nat) : Int32 → Int32 := fun x9 => match x9 with
  | v2_1 => (if (σ 203 k_1) = a1 then (v2_1 + (s_X2_parts σ k_1)) else v2_1)
def s_X8_partsOn (σ : St) (a1 : Int32) : Int32 := (s_X8_partsOn_c4 (iter (s_X8_partsOn_l4 σ a1) ((σ 815 0).toNatClampNeg - 0) 0 (0 : Int32)))
set_option maxHeartbeats 1000000 in
set_option maxRecDepth 100000 in
theorem k_X8_partsOn (l : Launch) (D : va_G) (ca : Nat → ClassId) (h : Nat) (ad : Nat → Nat) (pa : Nat → Nat → Nat) (tb : Nat) (σ : St) (a1 : Int32) (sz : Nat) (hI : IX σ)  (R : Int32) (hR : s_X8_partsOn σ a1 = R) : Met l yX8_partsOn wsX8_partsOn ({ frames := 1, cells := 0, slots := 0, locals := 20 }) (va_Pc [.ref h, .int a1] (cw_pre D ca (WC ca h ad pa σ) sz tb)) (va_Qi (fun (r : Int32) (_ : Unit) => r = R) (fun (_ : Unit) (t : State) => pw_post D ca (WC ca h ad pa σ) sz (WC ca h ad pa σ) t) (va_A (WC ca h ad pa σ) sz)) 0 0 (va_A (WC ca h ad pa σ) sz) := by
  refine Met.ofW (cc := cX8_partsOn) (maxL := 4) (ret := (some .int)) (by decide) rfl ?_
  intro p e s m args below meth c s₁ B hml hv
  obtain ⟨rfl, ⟨hsz, hP, hK, hD0⟩, hZ⟩ := hv
  have hx := B.exec
  have hb := B.bytes
  have hr := B.returns
  have hts := atoms_spec (ws := wsX8_partsOn) B.pre
  have hown : s.vm.findClass RX8 = some m.cls := findClass_of_methodNamed B.named
  have hlocks := B.notSynchronized
  have hu2 : ∀ w ∈ u_ws RX2 TX2 8, w ∈ wsX8_partsOn := fun w h => List.mem_cons_of_mem _ (uw2 w h)
  have hu8 : ∀ w ∈ u_ws RX8 TX8 19, w ∈ wsX8_partsOn := fun w h => List.mem_cons_of_mem _ (uw8 w h)
  subst hsz
  have hD := hD0.self (sz := s.heap.size)
  obtain ⟨A, hAe⟩ : ∃ A, A = va_A (WC ca h ad pa σ) s.heap.size := ⟨_, rfl⟩
  rw [← hAe] at hD hZ ⊢
  have hA : ∀ q : Nat, s.heap.size ≤ q → A q := fun q h => by rw [hAe]; exact Or.inr h
  have hS : va_S A s.heap s.heap [] := va_S.rf
  have hl := lv_entry ([.ref h, .int a1]) (n := 4) (Nat.le_of_ble_eq_true rfl)
  rw [lg_entry_eq]
  generalize (lg_sl ([.ref h, .int a1]) ++ List.replicate (4 - (lg_sl ([.ref h, .int a1])).length) Slot.unset).toArray = ls at hl ⊢
  have hl : lv_has ls 4 [(0, .ref h), (1, .int a1)] := hl
  obtain ⟨H, hH⟩ : ∃ H, H = s.heap := ⟨_, rfl⟩
  have hP : va_P D vwCl (WC ca h ad pa σ) H := by rw [hH]; exact hP
  have hS : va_S A s.heap H [] := by rw [hH]; exact hS
  obtain ⟨QQ, hQ⟩ : ∃ Q9, Q9 = MQ below (va_Qi (fun (r : Int32) (_ : Unit) => r = R) (fun (_ : Unit) (t : State) => pw_post D ca (WC ca h ad pa σ) s.heap.size (WC ca h ad pa σ) t) A) ([.ref h, .int a1] : List Value).toArray s 0 0 A := ⟨_, rfl⟩
  rw [← hQ]
  show W _ _ _ _ _ _ _ _ _ _ s.heap _ _ _ _ _
  rw [← hH]
  have hR : (s_X8_partsOn_c4 (iter (s_X8_partsOn_l4 σ a1) ((σ 815 0).toNatClampNeg - 0) 0 (0 : Int32))) = R := hR
  refine lv_iconst (v := (0 : Int32)) hx hb dX8_partsOn_0 (by decide) ?_
  refine lv_istore_n (lv' := [(2, .int (0 : Int32)), (0, .ref h), (1, .int a1)]) hx hb dX8_partsOn_1 rfl hl (by decide) rfl (fun ls hl => ?_)
  refine lv_iconst (v := (0 : Int32)) hx hb dX8_partsOn_2 (by decide) ?_
  refine lv_istore_n (lv' := [(3, .int (0 : Int32)), (2, .int (0 : Int32)), (0, .ref h), (1, .int a1)]) hx hb dX8_partsOn_3 rfl hl (by decide) rfl (fun ls hl => ?_)
  have hE_1 : ∀ (v2_1 : Int32) (H : Heap) (locs : List Loc) (ls : Array Slot), s_X8_partsOn_c4 v2_1 = R → va_P D vwCl (WC ca h ad pa σ) H → va_D A (WC ca h ad pa σ) → va_S A s.heap H locs → lv_has ls 4 [(2, .int v2_1)] → W p l e ((headSpec wsX8_partsOn ({ frames := 1, cells := 0, slots := 0, locals := 20 })).room) s m ([.ref h, .int a1] : List Value).toArray below meth c H locs 0 0 QQ (F0 m 43 ls []) := by
    intro v2_1 H locs ls hR hP hD hS hl
    have hR : v2_1 = R := hR
    refine lv_iload_n hx hb dX8_partsOn_43 rfl (lv_at hl 0 rfl) ?_
    subst hR
    rw [hQ]
    exact W.iret (v := v2_1) hx hb hr (fun t ht hW => ⟨⟨v2_1, (), rfl, rfl, ⟨by rw [ht]; exact hP, va_K.moved hW.alike hK, by rw [← hAe]; exact hD⟩⟩, hS.F ht⟩) hS.2.2 dX8_partsOn_44
  have hL_1 : ∀ (n k_1 : Nat) (v2_1 : Int32) (hk_1 : lpk (σ 815 0) k_1 n) (H : Heap) (locs : List Loc) (ls : Array Slot), s_X8_partsOn_c4 (iter (s_X8_partsOn_l4 σ a1) n k_1 v2_1) = R → va_P D vwCl (WC ca h ad pa σ) H → va_D A (WC ca h ad pa σ) → va_S A s.heap H locs → lv_has ls 4 [(3, .int (nI k_1)), (2, .int v2_1), (0, .ref h), (1, .int a1)] → W p l e ((headSpec wsX8_partsOn ({ frames := 1, cells := 0, slots := 0, locals := 20 })).room) s m ([.ref h, .int a1] : List Value).toArray below meth c H locs 0 0 QQ (F0 m 4 ls []) := by
    intro n
    induction n with
    | zero =>
      intro k_1 v2_1 hk_1 H locs ls hR hP hD hS hl
      refine lv_iload_n hx hb dX8_partsOn_4 rfl (lv_at hl 0 rfl) ?_
      refine lv_aload_n hx hb dX8_partsOn_5 rfl (lv_at hl 2 rfl) ?_
      refine va_get (D := D) (ci := 8) (v := .int (σ 815 0)) (C := RX8) (T := TX8) (N := 19) hx hb hts hu8 hown hK hP 0 wc_0 rfl 15 (by decide) (hts (.fieldLink RX8 88 "GrazeBook" "herdCount" "I") (List.mem_cons_of_mem _ mw_225)) (fun _ h9 => h9) rfl dX8_partsOn_6 ?_
      refine lv_icmp_ge (tgt := 43) hx hb dX8_partsOn_9 (by decide) (fun _ => ?_) (fun c_2 => absurd (ge_end hk_1) c_2)
      exact hE_1 v2_1 _ _ _ hR hP hD hS (lv_sub hl [1] rfl)
    | succ n ih =>
      intro k_1 v2_1 hk_1 H locs ls hR hP hD hS hl
      obtain ⟨S_1, hB_1⟩ : ∃ s9, s_X8_partsOn_l4 σ a1 k_1 v2_1 = s9 := ⟨_, rfl⟩
      have hR : s_X8_partsOn_c4 (iter (s_X8_partsOn_l4 σ a1) n (k_1 + 1) S_1) = R := by rw [← hB_1]; exact hR
      have hB_1 : (if (σ 203 k_1) = a1 then (v2_1 + (s_X2_parts σ k_1)) else v2_1) = S_1 := hB_1
      refine lv_iload_n hx hb dX8_partsOn_4 rfl (lv_at hl 0 rfl) ?_
      refine lv_aload_n hx hb dX8_partsOn_5 rfl (lv_at hl 2 rfl) ?_
      refine va_get (D := D) (ci := 8) (v := .int (σ 815 0)) (C := RX8) (T := TX8) (N := 19) hx hb hts hu8 hown hK hP 0 wc_0 rfl 15 (by decide) (hts (.fieldLink RX8 88 "GrazeBook" "herdCount" "I") (List.mem_cons_of_mem _ mw_225)) (fun _ h9 => h9) rfl dX8_partsOn_6 ?_
      refine lv_icmp_ge (tgt := 43) hx hb dX8_partsOn_9 (by decide) (fun c_3 => absurd c_3 (ge_go hk_1)) (fun _ => ?_)
      refine lv_aload_n hx hb dX8_partsOn_12 rfl (lv_at hl 2 rfl) ?_
      refine va_get (D := D) (ci := 8) (v := .ref (ad 805)) (C := RX8) (T := TX8) (N := 19) hx hb hts hu8 hown hK hP 0 wc_0 rfl 5 (by decide) (hts (.fieldLink RX8 40 "GrazeBook" "herds" "[LGrazeBook$Drove;") (List.mem_cons_of_mem _ mw_215)) (fun _ h9 => h9) rfl dX8_partsOn_13 ?_
      refine lv_iload_n hx hb dX8_partsOn_16 rfl (lv_at hl 0 rfl) ?_
      refine va_aldq_k (k := k_1) (b := pa 3 k_1) hx hb hK hP 9 5 wc_9 rfl (ix_cl hk_1) (rf_at (k_ltb hk_1)) (ix_loop (N := 20) hk_1 (ix_815 hI) (by decide) (by decide)) dX8_partsOn_17 ?_
      refine va_get (D := D) (ci := 2) (v := .int (σ 203 k_1)) (C := RX2) (T := TX2) (N := 8) hx hb hts hu2 hown hK hP (pcD ca h ad pa σ k_1) (wc_aD (k_ltb hk_1)) rfl 3 (by decide) (hts (.fieldLink RX8 163 "GrazeBook$Drove" "piece" "I") (List.mem_cons_of_mem _ mw_451)) (fun _ h9 => h9) rfl dX8_partsOn_18 ?_
      refine lv_iload_n hx hb dX8_partsOn_21 rfl (lv_at hl 3 rfl) ?_
      refine lv_icmp_ne (tgt := 37) hx hb dX8_partsOn_22 (by decide) (fun c_4 => ?_) (fun c_4 => ?_)
      · have hB_1 := (if_neg c_4).symm.trans hB_1
        refine lv_iinc (v := (nI (k_1 + 1))) (lv' := [(3, .int (nI (k_1 + 1))), (2, .int v2_1), (0, .ref h), (1, .int a1)]) hx hb dX8_partsOn_37 hl (k := 0) rfl (by rw [show Int32.ofInt 1 = 1 from by decide]; exact nI_1 _) (by decide) rfl (fun ls hl => ?_)
        refine lv_goto (tgt := 4) hx hb dX8_partsOn_40 (by decide) ?_
        subst hB_1
        exact ih (k_1 + 1) v2_1 (ge_next hk_1)  _ _ _ hR hP hD hS (lv_sub hl [0, 1, 2, 3] rfl)
      · have hB_1 := (if_pos c_4).symm.trans hB_1
        refine lv_iload_n hx hb dX8_partsOn_25 rfl (lv_at hl 1 rfl) ?_
        refine lv_aload_n hx hb dX8_partsOn_26 rfl (lv_at hl 2 rfl) ?_
        refine va_get (D := D) (ci := 8) (v := .ref (ad 805)) (C := RX8) (T := TX8) (N := 19) hx hb hts hu8 hown hK hP 0 wc_0 rfl 5 (by decide) (hts (.fieldLink RX8 40 "GrazeBook" "herds" "[LGrazeBook$Drove;") (List.mem_cons_of_mem _ mw_215)) (fun _ h9 => h9) rfl dX8_partsOn_27 ?_
        refine lv_iload_n hx hb dX8_partsOn_30 rfl (lv_at hl 0 rfl) ?_
        refine va_aldq_k (k := k_1) (b := pa 3 k_1) hx hb hK hP 9 5 wc_9 rfl (ix_cl hk_1) (rf_at (k_ltb hk_1)) (ix_loop (N := 20) hk_1 (ix_815 hI) (by decide) (by decide)) dX8_partsOn_31 ?_
        have hF := pw_free hD hS hA
        refine va_calli (va_runV (As := []) (rest := [.int v2_1]) ⟨hx, hb, hml, hown, hts⟩ (k_X2_parts l D ca h ad pa tb σ k_1 H.size hI (k_ltb hk_1) _ rfl) (cwV 0 hts gX8_partsOn_X2_parts rfl rfl rfl (by decide +kernel) ⟨Nat.le_of_ble_eq_true rfl, Nat.le_of_ble_eq_true rfl⟩) ⟨cw_blind, va_recv hK hP (ci := 2) (q0 := (pcD ca h ad pa σ k_1)) rfl (wc_aD (k_ltb hk_1)), cw_give hP hK hD hZ hS hF⟩ rfl rfl hl.1 rfl (lv_room (Nat.le_of_ble_eq_true rfl)) dX8_partsOn_32 ⟨Nat.le_of_ble_eq_true rfl, Nat.le_of_ble_eq_true rfl⟩) hS (fun q _ h => hF q h) hF (fun r_5 u t H1 locs ht hvm hw hB hz1 hk1 hS => ?_)
        rw [hw]
        obtain ⟨hP, hD⟩ := pw_back hF ht hB
        clear hB hk1 hz1 hF
        generalize H1 = H at hP hS ⊢
        refine lv_iadd hx hb dX8_partsOn_35 ?_
        refine lv_istore_n (lv' := [(2, .int (v2_1 + (s_X2_parts σ k_1))), (3, .int (nI k_1)), (0, .ref h), (1, .int a1)]) hx hb dX8_partsOn_36 rfl hl (by decide) rfl (fun ls hl => ?_)
        refine lv_iinc (v := (nI (k_1 + 1))) (lv' := [(3, .int (nI (k_1 + 1))), (2, .int (v2_1 + (s_X2_parts σ k_1))), (0, .ref h), (1, .int a1)]) hx hb dX8_partsOn_37 hl (k := 1) rfl (by rw [show Int32.ofInt 1 = 1 from by decide]; exact nI_1 _) (by decide) rfl (fun ls hl => ?_)
        refine lv_goto (tgt := 4) hx hb dX8_partsOn_40 (by decide) ?_
        subst hB_1
        exact ih (k_1 + 1) (v2_1 + (s_X2_parts σ k_1)) (ge_next hk_1)  _ _ _ hR hP hD hS (lv_sub hl [0, 1, 2, 3] rfl)
  exact hL_1 _ 0 (0 : Int32) ⟨rfl, by decide⟩  _ _ _ hR hP hD hS (lv_sub hl [0, 1, 2, 3] rfl)

def s_X8_herdsOn_c4  : Int32 → Int32 := fun x9 => match x9 with
  | v2_1 => v2_1
def s_X8_herdsOn_l4 (σ : St) (a1 : Int32) (k_1 : Nat) : Int32 → Int32 := fun x9 => match x9 with
  | v2_1 => (if (σ 203 k_1) = a1 then (v2_1 + (1 : Int32)) else v2_1)
def s_X8_herdsOn (σ : St) (a1 : Int32) : Int32 := (s_X8_herdsOn_c4 (iter (s_X8_herdsOn_l4 σ a1) ((σ 815 0).toNatClampNeg - 0) 0 (0 : Int32)))
set_option maxHeartbeats 1000000 in
set_option maxRecDepth 100000 in
theorem k_X8_herdsOn (l : Launch) (D : va_G) (ca : Nat → ClassId) (h : Nat) (ad : Nat → Nat) (pa : Nat → Nat → Nat) (tb : Nat) (σ : St) (a1 : Int32) (sz : Nat) (hI : IX σ)  (R : Int32) (hR : s_X8_herdsOn σ a1 = R) : Met l yX8_herdsOn wsX8_herdsOn ({ frames := 0, cells := 0, slots := 0, locals := 0 }) (va_Pc [.ref h, .int a1] (cw_pre D ca (WC ca h ad pa σ) sz tb)) (va_Qi (fun (r : Int32) (_ : Unit) => r = R) (fun (_ : Unit) (t : State) => pw_post D ca (WC ca h ad pa σ) sz (WC ca h ad pa σ) t) (va_A (WC ca h ad pa σ) sz)) 0 0 (va_A (WC ca h ad pa σ) sz) := by
  refine Met.ofW (cc := cX8_herdsOn) (maxL := 4) (ret := (some .int)) (by decide) rfl ?_
  intro p e s m args below meth c s₁ B hml hv
  obtain ⟨rfl, ⟨hsz, hP, hK, hD0⟩, hZ⟩ := hv
  have hx := B.exec
  have hb := B.bytes
  have hr := B.returns
  have hts := atoms_spec (ws := wsX8_herdsOn) B.pre
  have hown : s.vm.findClass RX8 = some m.cls := findClass_of_methodNamed B.named
  have hlocks := B.notSynchronized
  have hu2 : ∀ w ∈ u_ws RX2 TX2 8, w ∈ wsX8_herdsOn := fun w h => List.mem_cons_of_mem _ (uw2 w h)
  have hu8 : ∀ w ∈ u_ws RX8 TX8 19, w ∈ wsX8_herdsOn := fun w h => List.mem_cons_of_mem _ (uw8 w h)
  subst hsz
  have hD := hD0.self (sz := s.heap.size)
  obtain ⟨A, hAe⟩ : ∃ A, A = va_A (WC ca h ad pa σ) s.heap.size := ⟨_, rfl⟩
  rw [← hAe] at hD hZ ⊢
  have hA : ∀ q : Nat, s.heap.size ≤ q → A q := fun q h => by rw [hAe]; exact Or.inr h
  have hS : va_S A s.heap s.heap [] := va_S.rf
  have hl := lv_entry ([.ref h, .int a1]) (n := 4) (Nat.le_of_ble_eq_true rfl)
  rw [lg_entry_eq]
  generalize (lg_sl ([.ref h, .int a1]) ++ List.replicate (4 - (lg_sl ([.ref h, .int a1])).length) Slot.unset).toArray = ls at hl ⊢
  have hl : lv_has ls 4 [(0, .ref h), (1, .int a1)] := hl
  obtain ⟨H, hH⟩ : ∃ H, H = s.heap := ⟨_, rfl⟩
  have hP : va_P D vwCl (WC ca h ad pa σ) H := by rw [hH]; exact hP
  have hS : va_S A s.heap H [] := by rw [hH]; exact hS
  obtain ⟨QQ, hQ⟩ : ∃ Q9, Q9 = MQ below (va_Qi (fun (r : Int32) (_ : Unit) => r = R) (fun (_ : Unit) (t : State) => pw_post D ca (WC ca h ad pa σ) s.heap.size (WC ca h ad pa σ) t) A) ([.ref h, .int a1] : List Value).toArray s 0 0 A := ⟨_, rfl⟩
  rw [← hQ]
  show W _ _ _ _ _ _ _ _ _ _ s.heap _ _ _ _ _
  rw [← hH]
  have hR : (s_X8_herdsOn_c4 (iter (s_X8_herdsOn_l4 σ a1) ((σ 815 0).toNatClampNeg - 0) 0 (0 : Int32))) = R := hR
  refine lv_iconst (v := (0 : Int32)) hx hb dX8_herdsOn_0 (by decide) ?_
  refine lv_istore_n (lv' := [(2, .int (0 : Int32)), (0, .ref h), (1, .int a1)]) hx hb dX8_herdsOn_1 rfl hl (by decide) rfl (fun ls hl => ?_)
  refine lv_iconst (v := (0 : Int32)) hx hb dX8_herdsOn_2 (by decide) ?_
  refine lv_istore_n (lv' := [(3, .int (0 : Int32)), (2, .int (0 : Int32)), (0, .ref h), (1, .int a1)]) hx hb dX8_herdsOn_3 rfl hl (by decide) rfl (fun ls hl => ?_)
  have hE_1 : ∀ (v2_1 : Int32) (H : Heap) (locs : List Loc) (ls : Array Slot), s_X8_herdsOn_c4 v2_1 = R → va_P D vwCl (WC ca h ad pa σ) H → va_D A (WC ca h ad pa σ) → va_S A s.heap H locs → lv_has ls 4 [(2, .int v2_1)] → W p l e ((headSpec wsX8_herdsOn ({ frames := 0, cells := 0, slots := 0, locals := 0 })).room) s m ([.ref h, .int a1] : List Value).toArray below meth c H locs 0 0 QQ (F0 m 34 ls []) := by
    intro v2_1 H locs ls hR hP hD hS hl
    have hR : v2_1 = R := hR
    refine lv_iload_n hx hb dX8_herdsOn_34 rfl (lv_at hl 0 rfl) ?_
    subst hR
    rw [hQ]
    exact W.iret (v := v2_1) hx hb hr (fun t ht hW => ⟨⟨v2_1, (), rfl, rfl, ⟨by rw [ht]; exact hP, va_K.moved hW.alike hK, by rw [← hAe]; exact hD⟩⟩, hS.F ht⟩) hS.2.2 dX8_herdsOn_35
  have hL_1 : ∀ (n k_1 : Nat) (v2_1 : Int32) (hk_1 : lpk (σ 815 0) k_1 n) (H : Heap) (locs : List Loc) (ls : Array Slot), s_X8_herdsOn_c4 (iter (s_X8_herdsOn_l4 σ a1) n k_1 v2_1) = R → va_P D vwCl (WC ca h ad pa σ) H → va_D A (WC ca h ad pa σ) → va_S A s.heap H locs → lv_has ls 4 [(3, .int (nI k_1)), (2, .int v2_1), (0, .ref h), (1, .int a1)] → W p l e ((headSpec wsX8_herdsOn ({ frames := 0, cells := 0, slots := 0, locals := 0 })).room) s m ([.ref h, .int a1] : List Value).toArray below meth c H locs 0 0 QQ (F0 m 4 ls []) := by
    intro n
    induction n with
    | zero =>
      intro k_1 v2_1 hk_1 H locs ls hR hP hD hS hl
      refine lv_iload_n hx hb dX8_herdsOn_4 rfl (lv_at hl 0 rfl) ?_
      refine lv_aload_n hx hb dX8_herdsOn_5 rfl (lv_at hl 2 rfl) ?_
      refine va_get (D := D) (ci := 8) (v := .int (σ 815 0)) (C := RX8) (T := TX8) (N := 19) hx hb hts hu8 hown hK hP 0 wc_0 rfl 15 (by decide) (hts (.fieldLink RX8 88 "GrazeBook" "herdCount" "I") (List.mem_cons_of_mem _ mw_225)) (fun _ h9 => h9) rfl dX8_herdsOn_6 ?_
      refine lv_icmp_ge (tgt := 34) hx hb dX8_herdsOn_9 (by decide) (fun _ => ?_) (fun c_2 => absurd (ge_end hk_1) c_2)
      exact hE_1 v2_1 _ _ _ hR hP hD hS (lv_sub hl [1] rfl)
    | succ n ih =>
      intro k_1 v2_1 hk_1 H locs ls hR hP hD hS hl
      obtain ⟨S_1, hB_1⟩ : ∃ s9, s_X8_herdsOn_l4 σ a1 k_1 v2_1 = s9 := ⟨_, rfl⟩
      have hR : s_X8_herdsOn_c4 (iter (s_X8_herdsOn_l4 σ a1) n (k_1 + 1) S_1) = R := by rw [← hB_1]; exact hR
      have hB_1 : (if (σ 203 k_1) = a1 then (v2_1 + (1 : Int32)) else v2_1) = S_1 := hB_1
      refine lv_iload_n hx hb dX8_herdsOn_4 rfl (lv_at hl 0 rfl) ?_
      refine lv_aload_n hx hb dX8_herdsOn_5 rfl (lv_at hl 2 rfl) ?_
      refine va_get (D := D) (ci := 8) (v := .int (σ 815 0)) (C := RX8) (T := TX8) (N := 19) hx hb hts hu8 hown hK hP 0 wc_0 rfl 15 (by decide) (hts (.fieldLink RX8 88 "GrazeBook" "herdCount" "I") (List.mem_cons_of_mem _ mw_225)) (fun _ h9 => h9) rfl dX8_herdsOn_6 ?_
      refine lv_icmp_ge (tgt := 34) hx hb dX8_herdsOn_9 (by decide) (fun c_3 => absurd c_3 (ge_go hk_1)) (fun _ => ?_)
      refine lv_aload_n hx hb dX8_herdsOn_12 rfl (lv_at hl 2 rfl) ?_
      refine va_get (D := D) (ci := 8) (v := .ref (ad 805)) (C := RX8) (T := TX8) (N := 19) hx hb hts hu8 hown hK hP 0 wc_0 rfl 5 (by decide) (hts (.fieldLink RX8 40 "GrazeBook" "herds" "[LGrazeBook$Drove;") (List.mem_cons_of_mem _ mw_215)) (fun _ h9 => h9) rfl dX8_herdsOn_13 ?_
      refine lv_iload_n hx hb dX8_herdsOn_16 rfl (lv_at hl 0 rfl) ?_
      refine va_aldq_k (k := k_1) (b := pa 3 k_1) hx hb hK hP 9 5 wc_9 rfl (ix_cl hk_1) (rf_at (k_ltb hk_1)) (ix_loop (N := 20) hk_1 (ix_815 hI) (by decide) (by decide)) dX8_herdsOn_17 ?_
      refine va_get (D := D) (ci := 2) (v := .int (σ 203 k_1)) (C := RX2) (T := TX2) (N := 8) hx hb hts hu2 hown hK hP (pcD ca h ad pa σ k_1) (wc_aD (k_ltb hk_1)) rfl 3 (by decide) (hts (.fieldLink RX8 163 "GrazeBook$Drove" "piece" "I") (List.mem_cons_of_mem _ mw_451)) (fun _ h9 => h9) rfl dX8_herdsOn_18 ?_
      refine lv_iload_n hx hb dX8_herdsOn_21 rfl (lv_at hl 3 rfl) ?_
      refine lv_icmp_ne (tgt := 28) hx hb dX8_herdsOn_22 (by decide) (fun c_4 => ?_) (fun c_4 => ?_)
      · have hB_1 := (if_neg c_4).symm.trans hB_1
        refine lv_iinc (v := (nI (k_1 + 1))) (lv' := [(3, .int (nI (k_1 + 1))), (2, .int v2_1), (0, .ref h), (1, .int a1)]) hx hb dX8_herdsOn_28 hl (k := 0) rfl (by rw [show Int32.ofInt 1 = 1 from by decide]; exact nI_1 _) (by decide) rfl (fun ls hl => ?_)
        refine lv_goto (tgt := 4) hx hb dX8_herdsOn_31 (by decide) ?_
        subst hB_1
        exact ih (k_1 + 1) v2_1 (ge_next hk_1)  _ _ _ hR hP hD hS (lv_sub hl [0, 1, 2, 3] rfl)
      · have hB_1 := (if_pos c_4).symm.trans hB_1
        refine lv_iinc (v := (v2_1 + (1 : Int32))) (lv' := [(2, .int (v2_1 + (1 : Int32))), (3, .int (nI k_1)), (0, .ref h), (1, .int a1)]) hx hb dX8_herdsOn_25 hl (k := 1) rfl (by rw [show Int32.ofInt (1) = (1 : Int32) from by decide]) (by decide) rfl (fun ls hl => ?_)
        refine lv_iinc (v := (nI (k_1 + 1))) (lv' := [(3, .int (nI (k_1 + 1))), (2, .int (v2_1 + (1 : Int32))), (0, .ref h), (1, .int a1)]) hx hb dX8_herdsOn_28 hl (k := 1) rfl (by rw [show Int32.ofInt 1 = 1 from by decide]; exact nI_1 _) (by decide) rfl (fun ls hl => ?_)
        refine lv_goto (tgt := 4) hx hb dX8_herdsOn_31 (by decide) ?_
        subst hB_1
        exact ih (k_1 + 1) (v2_1 + (1 : Int32)) (ge_next hk_1)  _ _ _ hR hP hD hS (lv_sub hl [0, 1, 2, 3] rfl)
  exact hL_1 _ 0 (0 : Int32) ⟨rfl, by decide⟩  _ _ _ hR hP hD hS (lv_sub hl [0, 1, 2, 3] rfl)

def s_X8_herdsNotLost_c4  : Int32 → Int32 := fun x9 => match x9 with
  | v1_1 => v1_1
def s_X8_herdsNotLost_l4 (σ : St) (k_1 : Nat) : Int32 → Int32 := fun x9 => match x9 with
  | v1_1 => (if (σ 206 k_1) = (2 : Int32) then v1_1 else (v1_1 + (1 : Int32)))
def s_X8_herdsNotLost (σ : St) : Int32 := (s_X8_herdsNotLost_c4 (iter (s_X8_herdsNotLost_l4 σ) ((σ 815 0).toNatClampNeg - 0) 0 (0 : Int32)))
set_option maxHeartbeats 1000000 in
set_option maxRecDepth 100000 in
theorem k_X8_herdsNotLost (l : Launch) (D : va_G) (ca : Nat → ClassId) (h : Nat) (ad : Nat → Nat) (pa : Nat → Nat → Nat) (tb : Nat) (σ : St) (sz : Nat) (hI : IX σ)  (R : Int32) (hR : s_X8_herdsNotLost σ = R) : Met l yX8_herdsNotLost wsX8_herdsNotLost ({ frames := 0, cells := 0, slots := 0, locals := 0 }) (va_Pc [.ref h] (cw_pre D ca (WC ca h ad pa σ) sz tb)) (va_Qi (fun (r : Int32) (_ : Unit) => r = R) (fun (_ : Unit) (t : State) => pw_post D ca (WC ca h ad pa σ) sz (WC ca h ad pa σ) t) (va_A (WC ca h ad pa σ) sz)) 0 0 (va_A (WC ca h ad pa σ) sz) := by
  refine Met.ofW (cc := cX8_herdsNotLost) (maxL := 3) (ret := (some .int)) (by decide) rfl ?_
  intro p e s m args below meth c s₁ B hml hv
  obtain ⟨rfl, ⟨hsz, hP, hK, hD0⟩, hZ⟩ := hv
  have hx := B.exec
  have hb := B.bytes
  have hr := B.returns
  have hts := atoms_spec (ws := wsX8_herdsNotLost) B.pre
  have hown : s.vm.findClass RX8 = some m.cls := findClass_of_methodNamed B.named
  have hlocks := B.notSynchronized
  have hu2 : ∀ w ∈ u_ws RX2 TX2 8, w ∈ wsX8_herdsNotLost := fun w h => List.mem_cons_of_mem _ (uw2 w h)
  have hu8 : ∀ w ∈ u_ws RX8 TX8 19, w ∈ wsX8_herdsNotLost := fun w h => List.mem_cons_of_mem _ (uw8 w h)
  subst hsz
  have hD := hD0.self (sz := s.heap.size)
  obtain ⟨A, hAe⟩ : ∃ A, A = va_A (WC ca h ad pa σ) s.heap.size := ⟨_, rfl⟩
  rw [← hAe] at hD hZ ⊢
  have hA : ∀ q : Nat, s.heap.size ≤ q → A q := fun q h => by rw [hAe]; exact Or.inr h
  have hS : va_S A s.heap s.heap [] := va_S.rf
  have hl := lv_entry ([.ref h]) (n := 3) (Nat.le_of_ble_eq_true rfl)
  rw [lg_entry_eq]
  generalize (lg_sl ([.ref h]) ++ List.replicate (3 - (lg_sl ([.ref h])).length) Slot.unset).toArray = ls at hl ⊢
  have hl : lv_has ls 3 [(0, .ref h)] := hl
  obtain ⟨H, hH⟩ : ∃ H, H = s.heap := ⟨_, rfl⟩
  have hP : va_P D vwCl (WC ca h ad pa σ) H := by rw [hH]; exact hP
  have hS : va_S A s.heap H [] := by rw [hH]; exact hS
  obtain ⟨QQ, hQ⟩ : ∃ Q9, Q9 = MQ below (va_Qi (fun (r : Int32) (_ : Unit) => r = R) (fun (_ : Unit) (t : State) => pw_post D ca (WC ca h ad pa σ) s.heap.size (WC ca h ad pa σ) t) A) ([.ref h] : List Value).toArray s 0 0 A := ⟨_, rfl⟩
  rw [← hQ]
  show W _ _ _ _ _ _ _ _ _ _ s.heap _ _ _ _ _
  rw [← hH]
  have hR : (s_X8_herdsNotLost_c4 (iter (s_X8_herdsNotLost_l4 σ) ((σ 815 0).toNatClampNeg - 0) 0 (0 : Int32))) = R := hR
  refine lv_iconst (v := (0 : Int32)) hx hb dX8_herdsNotLost_0 (by decide) ?_
  refine lv_istore_n (lv' := [(1, .int (0 : Int32)), (0, .ref h)]) hx hb dX8_herdsNotLost_1 rfl hl (by decide) rfl (fun ls hl => ?_)
  refine lv_iconst (v := (0 : Int32)) hx hb dX8_herdsNotLost_2 (by decide) ?_
  refine lv_istore_n (lv' := [(2, .int (0 : Int32)), (1, .int (0 : Int32)), (0, .ref h)]) hx hb dX8_herdsNotLost_3 rfl hl (by decide) rfl (fun ls hl => ?_)
  have hE_1 : ∀ (v1_1 : Int32) (H : Heap) (locs : List Loc) (ls : Array Slot), s_X8_herdsNotLost_c4 v1_1 = R → va_P D vwCl (WC ca h ad pa σ) H → va_D A (WC ca h ad pa σ) → va_S A s.heap H locs → lv_has ls 3 [(1, .int v1_1)] → W p l e ((headSpec wsX8_herdsNotLost ({ frames := 0, cells := 0, slots := 0, locals := 0 })).room) s m ([.ref h] : List Value).toArray below meth c H locs 0 0 QQ (F0 m 34 ls []) := by
    intro v1_1 H locs ls hR hP hD hS hl
    have hR : v1_1 = R := hR
    refine lv_iload_n hx hb dX8_herdsNotLost_34 rfl (lv_at hl 0 rfl) ?_
    subst hR
    rw [hQ]
    exact W.iret (v := v1_1) hx hb hr (fun t ht hW => ⟨⟨v1_1, (), rfl, rfl, ⟨by rw [ht]; exact hP, va_K.moved hW.alike hK, by rw [← hAe]; exact hD⟩⟩, hS.F ht⟩) hS.2.2 dX8_herdsNotLost_35
  have hL_1 : ∀ (n k_1 : Nat) (v1_1 : Int32) (hk_1 : lpk (σ 815 0) k_1 n) (H : Heap) (locs : List Loc) (ls : Array Slot), s_X8_herdsNotLost_c4 (iter (s_X8_herdsNotLost_l4 σ) n k_1 v1_1) = R → va_P D vwCl (WC ca h ad pa σ) H → va_D A (WC ca h ad pa σ) → va_S A s.heap H locs → lv_has ls 3 [(2, .int (nI k_1)), (1, .int v1_1), (0, .ref h)] → W p l e ((headSpec wsX8_herdsNotLost ({ frames := 0, cells := 0, slots := 0, locals := 0 })).room) s m ([.ref h] : List Value).toArray below meth c H locs 0 0 QQ (F0 m 4 ls []) := by
    intro n
    induction n with
    | zero =>
      intro k_1 v1_1 hk_1 H locs ls hR hP hD hS hl
      refine lv_iload_n hx hb dX8_herdsNotLost_4 rfl (lv_at hl 0 rfl) ?_
      refine lv_aload_n hx hb dX8_herdsNotLost_5 rfl (lv_at hl 2 rfl) ?_
      refine va_get (D := D) (ci := 8) (v := .int (σ 815 0)) (C := RX8) (T := TX8) (N := 19) hx hb hts hu8 hown hK hP 0 wc_0 rfl 15 (by decide) (hts (.fieldLink RX8 88 "GrazeBook" "herdCount" "I") (List.mem_cons_of_mem _ mw_225)) (fun _ h9 => h9) rfl dX8_herdsNotLost_6 ?_
      refine lv_icmp_ge (tgt := 34) hx hb dX8_herdsNotLost_9 (by decide) (fun _ => ?_) (fun c_2 => absurd (ge_end hk_1) c_2)
      exact hE_1 v1_1 _ _ _ hR hP hD hS (lv_sub hl [1] rfl)
    | succ n ih =>
      intro k_1 v1_1 hk_1 H locs ls hR hP hD hS hl
      obtain ⟨S_1, hB_1⟩ : ∃ s9, s_X8_herdsNotLost_l4 σ k_1 v1_1 = s9 := ⟨_, rfl⟩
      have hR : s_X8_herdsNotLost_c4 (iter (s_X8_herdsNotLost_l4 σ) n (k_1 + 1) S_1) = R := by rw [← hB_1]; exact hR
      have hB_1 : (if (σ 206 k_1) = (2 : Int32) then v1_1 else (v1_1 + (1 : Int32))) = S_1 := hB_1
      refine lv_iload_n hx hb dX8_herdsNotLost_4 rfl (lv_at hl 0 rfl) ?_
      refine lv_aload_n hx hb dX8_herdsNotLost_5 rfl (lv_at hl 2 rfl) ?_
      refine va_get (D := D) (ci := 8) (v := .int (σ 815 0)) (C := RX8) (T := TX8) (N := 19) hx hb hts hu8 hown hK hP 0 wc_0 rfl 15 (by decide) (hts (.fieldLink RX8 88 "GrazeBook" "herdCount" "I") (List.mem_cons_of_mem _ mw_225)) (fun _ h9 => h9) rfl dX8_herdsNotLost_6 ?_
      refine lv_icmp_ge (tgt := 34) hx hb dX8_herdsNotLost_9 (by decide) (fun c_3 => absurd c_3 (ge_go hk_1)) (fun _ => ?_)
      refine lv_aload_n hx hb dX8_herdsNotLost_12 rfl (lv_at hl 2 rfl) ?_
      refine va_get (D := D) (ci := 8) (v := .ref (ad 805)) (C := RX8) (T := TX8) (N := 19) hx hb hts hu8 hown hK hP 0 wc_0 rfl 5 (by decide) (hts (.fieldLink RX8 40 "GrazeBook" "herds" "[LGrazeBook$Drove;") (List.mem_cons_of_mem _ mw_215)) (fun _ h9 => h9) rfl dX8_herdsNotLost_13 ?_
      refine lv_iload_n hx hb dX8_herdsNotLost_16 rfl (lv_at hl 0 rfl) ?_
      refine va_aldq_k (k := k_1) (b := pa 3 k_1) hx hb hK hP 9 5 wc_9 rfl (ix_cl hk_1) (rf_at (k_ltb hk_1)) (ix_loop (N := 20) hk_1 (ix_815 hI) (by decide) (by decide)) dX8_herdsNotLost_17 ?_
      refine va_get (D := D) (ci := 2) (v := .int (σ 206 k_1)) (C := RX2) (T := TX2) (N := 8) hx hb hts hu2 hown hK hP (pcD ca h ad pa σ k_1) (wc_aD (k_ltb hk_1)) rfl 6 (by decide) (hts (.fieldLink RX8 160 "GrazeBook$Drove" "state" "I") (List.mem_cons_of_mem _ mw_457)) (fun _ h9 => h9) rfl dX8_herdsNotLost_18 ?_
      refine lv_iconst (v := (2 : Int32)) hx hb dX8_herdsNotLost_21 (by decide) ?_
      refine lv_icmp_eq (tgt := 28) hx hb dX8_herdsNotLost_22 (by decide) (fun c_4 => ?_) (fun c_4 => ?_)
      · have hB_1 := (if_pos c_4).symm.trans hB_1
        refine lv_iinc (v := (nI (k_1 + 1))) (lv' := [(2, .int (nI (k_1 + 1))), (1, .int v1_1), (0, .ref h)]) hx hb dX8_herdsNotLost_28 hl (k := 0) rfl (by rw [show Int32.ofInt 1 = 1 from by decide]; exact nI_1 _) (by decide) rfl (fun ls hl => ?_)
        refine lv_goto (tgt := 4) hx hb dX8_herdsNotLost_31 (by decide) ?_
        subst hB_1
        exact ih (k_1 + 1) v1_1 (ge_next hk_1)  _ _ _ hR hP hD hS (lv_sub hl [0, 1, 2] rfl)
      · have hB_1 := (if_neg c_4).symm.trans hB_1
        refine lv_iinc (v := (v1_1 + (1 : Int32))) (lv' := [(1, .int (v1_1 + (1 : Int32))), (2, .int (nI k_1)), (0, .ref h)]) hx hb dX8_herdsNotLost_25 hl (k := 1) rfl (by rw [show Int32.ofInt (1) = (1 : Int32) from by decide]) (by decide) rfl (fun ls hl => ?_)
        refine lv_iinc (v := (nI (k_1 + 1))) (lv' := [(2, .int (nI (k_1 + 1))), (1, .int (v1_1 + (1 : Int32))), (0, .ref h)]) hx hb dX8_herdsNotLost_28 hl (k := 1) rfl (by rw [show Int32.ofInt 1 = 1 from by decide]; exact nI_1 _) (by decide) rfl (fun ls hl => ?_)
        refine lv_goto (tgt := 4) hx hb dX8_herdsNotLost_31 (by decide) ?_
        subst hB_1
        exact ih (k_1 + 1) (v1_1 + (1 : Int32)) (ge_next hk_1)  _ _ _ hR hP hD hS (lv_sub hl [0, 1, 2] rfl)
  exact hL_1 _ 0 (0 : Int32) ⟨rfl, by decide⟩  _ _ _ hR hP hD hS (lv_sub hl [0, 1, 2] rfl)

def s_X8_allGrass_c4  : Int32 → Int32 := fun x9 => match x9 with
  | v1_1 => v1_1
def s_X8_allGrass_l4 (σ : St) (k_1 : Nat) : Int32 → Int32 := fun x9 => match x9 with
  | v1_1 => (v1_1 + (σ 403 k_1))
def s_X8_allGrass (σ : St) : Int32 := (s_X8_allGrass_c4 (iter (s_X8_allGrass_l4 σ) ((σ 811 0).toNatClampNeg - 0) 0 (0 : Int32)))
set_option maxHeartbeats 1000000 in
set_option maxRecDepth 100000 in
theorem k_X8_allGrass (l : Launch) (D : va_G) (ca : Nat → ClassId) (h : Nat) (ad : Nat → Nat) (pa : Nat → Nat → Nat) (tb : Nat) (σ : St) (sz : Nat) (hI : IX σ)  (R : Int32) (hR : s_X8_allGrass σ = R) : Met l yX8_allGrass wsX8_allGrass ({ frames := 0, cells := 0, slots := 0, locals := 0 }) (va_Pc [.ref h] (cw_pre D ca (WC ca h ad pa σ) sz tb)) (va_Qi (fun (r : Int32) (_ : Unit) => r = R) (fun (_ : Unit) (t : State) => pw_post D ca (WC ca h ad pa σ) sz (WC ca h ad pa σ) t) (va_A (WC ca h ad pa σ) sz)) 0 0 (va_A (WC ca h ad pa σ) sz) := by
  refine Met.ofW (cc := cX8_allGrass) (maxL := 3) (ret := (some .int)) (by decide) rfl ?_
  intro p e s m args below meth c s₁ B hml hv
  obtain ⟨rfl, ⟨hsz, hP, hK, hD0⟩, hZ⟩ := hv
  have hx := B.exec
  have hb := B.bytes
  have hr := B.returns
  have hts := atoms_spec (ws := wsX8_allGrass) B.pre
  have hown : s.vm.findClass RX8 = some m.cls := findClass_of_methodNamed B.named
  have hlocks := B.notSynchronized
  have hu4 : ∀ w ∈ u_ws RX4 TX4 6, w ∈ wsX8_allGrass := fun w h => List.mem_cons_of_mem _ (uw4 w h)
  have hu8 : ∀ w ∈ u_ws RX8 TX8 19, w ∈ wsX8_allGrass := fun w h => List.mem_cons_of_mem _ (uw8 w h)
  subst hsz
  have hD := hD0.self (sz := s.heap.size)
  obtain ⟨A, hAe⟩ : ∃ A, A = va_A (WC ca h ad pa σ) s.heap.size := ⟨_, rfl⟩
  rw [← hAe] at hD hZ ⊢
  have hA : ∀ q : Nat, s.heap.size ≤ q → A q := fun q h => by rw [hAe]; exact Or.inr h
  have hS : va_S A s.heap s.heap [] := va_S.rf
  have hl := lv_entry ([.ref h]) (n := 3) (Nat.le_of_ble_eq_true rfl)
  rw [lg_entry_eq]
  generalize (lg_sl ([.ref h]) ++ List.replicate (3 - (lg_sl ([.ref h])).length) Slot.unset).toArray = ls at hl ⊢
  have hl : lv_has ls 3 [(0, .ref h)] := hl
  obtain ⟨H, hH⟩ : ∃ H, H = s.heap := ⟨_, rfl⟩
  have hP : va_P D vwCl (WC ca h ad pa σ) H := by rw [hH]; exact hP
  have hS : va_S A s.heap H [] := by rw [hH]; exact hS
  obtain ⟨QQ, hQ⟩ : ∃ Q9, Q9 = MQ below (va_Qi (fun (r : Int32) (_ : Unit) => r = R) (fun (_ : Unit) (t : State) => pw_post D ca (WC ca h ad pa σ) s.heap.size (WC ca h ad pa σ) t) A) ([.ref h] : List Value).toArray s 0 0 A := ⟨_, rfl⟩
  rw [← hQ]
  show W _ _ _ _ _ _ _ _ _ _ s.heap _ _ _ _ _
  rw [← hH]
  have hR : (s_X8_allGrass_c4 (iter (s_X8_allGrass_l4 σ) ((σ 811 0).toNatClampNeg - 0) 0 (0 : Int32))) = R := hR
  refine lv_iconst (v := (0 : Int32)) hx hb dX8_allGrass_0 (by decide) ?_
  refine lv_istore_n (lv' := [(1, .int (0 : Int32)), (0, .ref h)]) hx hb dX8_allGrass_1 rfl hl (by decide) rfl (fun ls hl => ?_)
  refine lv_iconst (v := (0 : Int32)) hx hb dX8_allGrass_2 (by decide) ?_
  refine lv_istore_n (lv' := [(2, .int (0 : Int32)), (1, .int (0 : Int32)), (0, .ref h)]) hx hb dX8_allGrass_3 rfl hl (by decide) rfl (fun ls hl => ?_)
  have hE_1 : ∀ (v1_1 : Int32) (H : Heap) (locs : List Loc) (ls : Array Slot), s_X8_allGrass_c4 v1_1 = R → va_P D vwCl (WC ca h ad pa σ) H → va_D A (WC ca h ad pa σ) → va_S A s.heap H locs → lv_has ls 3 [(1, .int v1_1)] → W p l e ((headSpec wsX8_allGrass ({ frames := 0, cells := 0, slots := 0, locals := 0 })).room) s m ([.ref h] : List Value).toArray below meth c H locs 0 0 QQ (F0 m 30 ls []) := by
    intro v1_1 H locs ls hR hP hD hS hl
    have hR : v1_1 = R := hR
    refine lv_iload_n hx hb dX8_allGrass_30 rfl (lv_at hl 0 rfl) ?_
    subst hR
    rw [hQ]
    exact W.iret (v := v1_1) hx hb hr (fun t ht hW => ⟨⟨v1_1, (), rfl, rfl, ⟨by rw [ht]; exact hP, va_K.moved hW.alike hK, by rw [← hAe]; exact hD⟩⟩, hS.F ht⟩) hS.2.2 dX8_allGrass_31
  have hL_1 : ∀ (n k_1 : Nat) (v1_1 : Int32) (hk_1 : lpk (σ 811 0) k_1 n) (H : Heap) (locs : List Loc) (ls : Array Slot), s_X8_allGrass_c4 (iter (s_X8_allGrass_l4 σ) n k_1 v1_1) = R → va_P D vwCl (WC ca h ad pa σ) H → va_D A (WC ca h ad pa σ) → va_S A s.heap H locs → lv_has ls 3 [(2, .int (nI k_1)), (1, .int v1_1), (0, .ref h)] → W p l e ((headSpec wsX8_allGrass ({ frames := 0, cells := 0, slots := 0, locals := 0 })).room) s m ([.ref h] : List Value).toArray below meth c H locs 0 0 QQ (F0 m 4 ls []) := by
    intro n
    induction n with
    | zero =>
      intro k_1 v1_1 hk_1 H locs ls hR hP hD hS hl
      refine lv_iload_n hx hb dX8_allGrass_4 rfl (lv_at hl 0 rfl) ?_
      refine lv_aload_n hx hb dX8_allGrass_5 rfl (lv_at hl 2 rfl) ?_
      refine va_get (D := D) (ci := 8) (v := .int (σ 811 0)) (C := RX8) (T := TX8) (N := 19) hx hb hts hu8 hown hK hP 0 wc_0 rfl 11 (by decide) (hts (.fieldLink RX8 75 "GrazeBook" "pieceCount" "I") (List.mem_cons_of_mem _ mw_221)) (fun _ h9 => h9) rfl dX8_allGrass_6 ?_
      refine lv_icmp_ge (tgt := 30) hx hb dX8_allGrass_9 (by decide) (fun _ => ?_) (fun c_2 => absurd (ge_end hk_1) c_2)
      exact hE_1 v1_1 _ _ _ hR hP hD hS (lv_sub hl [1] rfl)
    | succ n ih =>
      intro k_1 v1_1 hk_1 H locs ls hR hP hD hS hl
      obtain ⟨S_1, hB_1⟩ : ∃ s9, s_X8_allGrass_l4 σ k_1 v1_1 = s9 := ⟨_, rfl⟩
      have hR : s_X8_allGrass_c4 (iter (s_X8_allGrass_l4 σ) n (k_1 + 1) S_1) = R := by rw [← hB_1]; exact hR
      have hB_1 : (v1_1 + (σ 403 k_1)) = S_1 := hB_1
      refine lv_iload_n hx hb dX8_allGrass_4 rfl (lv_at hl 0 rfl) ?_
      refine lv_aload_n hx hb dX8_allGrass_5 rfl (lv_at hl 2 rfl) ?_
      refine va_get (D := D) (ci := 8) (v := .int (σ 811 0)) (C := RX8) (T := TX8) (N := 19) hx hb hts hu8 hown hK hP 0 wc_0 rfl 11 (by decide) (hts (.fieldLink RX8 75 "GrazeBook" "pieceCount" "I") (List.mem_cons_of_mem _ mw_221)) (fun _ h9 => h9) rfl dX8_allGrass_6 ?_
      refine lv_icmp_ge (tgt := 30) hx hb dX8_allGrass_9 (by decide) (fun c_3 => absurd c_3 (ge_go hk_1)) (fun _ => ?_)
      refine lv_iload_n hx hb dX8_allGrass_12 rfl (lv_at hl 1 rfl) ?_
      refine lv_aload_n hx hb dX8_allGrass_13 rfl (lv_at hl 2 rfl) ?_
      refine va_get (D := D) (ci := 8) (v := .ref (ad 800)) (C := RX8) (T := TX8) (N := 19) hx hb hts hu8 hown hK hP 0 wc_0 rfl 0 (by decide) (hts (.fieldLink RX8 11 "GrazeBook" "pieces" "[LGrazeBook$Ground;") (List.mem_cons_of_mem _ mw_210)) (fun _ h9 => h9) rfl dX8_allGrass_14 ?_
      refine lv_iload_n hx hb dX8_allGrass_17 rfl (lv_at hl 0 rfl) ?_
      refine va_aldq_k (k := k_1) (b := pa 0 k_1) hx hb hK hP 6 2 wc_6 rfl (ix_cl hk_1) (rf_at (k_ltb hk_1)) (ix_loop (N := 6) hk_1 (ix_811 hI) (by decide) (by decide)) dX8_allGrass_18 ?_
      refine va_get (D := D) (ci := 4) (v := .int (σ 403 k_1)) (C := RX4) (T := TX4) (N := 6) hx hb hts hu4 hown hK hP (pcG ca h ad pa σ k_1) (wc_aG (k_ltb hk_1)) rfl 3 (by decide) (hts (.fieldLink RX8 210 "GrazeBook$Ground" "grass" "I") (List.mem_cons_of_mem _ mw_290)) (fun _ h9 => h9) rfl dX8_allGrass_19 ?_
      refine lv_iadd hx hb dX8_allGrass_22 ?_
      refine lv_istore_n (lv' := [(1, .int (v1_1 + (σ 403 k_1))), (2, .int (nI k_1)), (0, .ref h)]) hx hb dX8_allGrass_23 rfl hl (by decide) rfl (fun ls hl => ?_)
      refine lv_iinc (v := (nI (k_1 + 1))) (lv' := [(2, .int (nI (k_1 + 1))), (1, .int (v1_1 + (σ 403 k_1))), (0, .ref h)]) hx hb dX8_allGrass_24 hl (k := 1) rfl (by rw [show Int32.ofInt 1 = 1 from by decide]; exact nI_1 _) (by decide) rfl (fun ls hl => ?_)
      refine lv_goto (tgt := 4) hx hb dX8_allGrass_27 (by decide) ?_
      subst hB_1
      exact ih (k_1 + 1) (v1_1 + (σ 403 k_1)) (ge_next hk_1)  _ _ _ hR hP hD hS (lv_sub hl [0, 1, 2] rfl)
  exact hL_1 _ 0 (0 : Int32) ⟨rfl, by decide⟩  _ _ _ hR hP hD hS (lv_sub hl [0, 1, 2] rfl)

def s_X8_allHunger_c4  : Int32 → Int32 := fun x9 => match x9 with
  | v1_1 => v1_1
def s_X8_allHunger_l4 (σ : St) (k_1 : Nat) : Int32 → Int32 := fun x9 => match x9 with
  | v1_1 => (v1_1 + (σ 205 k_1))
def s_X8_allHunger (σ : St) : Int32 := (s_X8_allHunger_c4 (iter (s_X8_allHunger_l4 σ) ((σ 815 0).toNatClampNeg - 0) 0 (0 : Int32)))
set_option maxHeartbeats 1000000 in
set_option maxRecDepth 100000 in
theorem k_X8_allHunger (l : Launch) (D : va_G) (ca : Nat → ClassId) (h : Nat) (ad : Nat → Nat) (pa : Nat → Nat → Nat) (tb : Nat) (σ : St) (sz : Nat) (hI : IX σ)  (R : Int32) (hR : s_X8_allHunger σ = R) : Met l yX8_allHunger wsX8_allHunger ({ frames := 0, cells := 0, slots := 0, locals := 0 }) (va_Pc [.ref h] (cw_pre D ca (WC ca h ad pa σ) sz tb)) (va_Qi (fun (r : Int32) (_ : Unit) => r = R) (fun (_ : Unit) (t : State) => pw_post D ca (WC ca h ad pa σ) sz (WC ca h ad pa σ) t) (va_A (WC ca h ad pa σ) sz)) 0 0 (va_A (WC ca h ad pa σ) sz) := by
  refine Met.ofW (cc := cX8_allHunger) (maxL := 3) (ret := (some .int)) (by decide) rfl ?_
  intro p e s m args below meth c s₁ B hml hv
  obtain ⟨rfl, ⟨hsz, hP, hK, hD0⟩, hZ⟩ := hv
  have hx := B.exec
  have hb := B.bytes
  have hr := B.returns
  have hts := atoms_spec (ws := wsX8_allHunger) B.pre
  have hown : s.vm.findClass RX8 = some m.cls := findClass_of_methodNamed B.named
  have hlocks := B.notSynchronized
  have hu2 : ∀ w ∈ u_ws RX2 TX2 8, w ∈ wsX8_allHunger := fun w h => List.mem_cons_of_mem _ (uw2 w h)
  have hu8 : ∀ w ∈ u_ws RX8 TX8 19, w ∈ wsX8_allHunger := fun w h => List.mem_cons_of_mem _ (uw8 w h)
  subst hsz
  have hD := hD0.self (sz := s.heap.size)
  obtain ⟨A, hAe⟩ : ∃ A, A = va_A (WC ca h ad pa σ) s.heap.size := ⟨_, rfl⟩
  rw [← hAe] at hD hZ ⊢
  have hA : ∀ q : Nat, s.heap.size ≤ q → A q := fun q h => by rw [hAe]; exact Or.inr h
  have hS : va_S A s.heap s.heap [] := va_S.rf
  have hl := lv_entry ([.ref h]) (n := 3) (Nat.le_of_ble_eq_true rfl)
  rw [lg_entry_eq]
  generalize (lg_sl ([.ref h]) ++ List.replicate (3 - (lg_sl ([.ref h])).length) Slot.unset).toArray = ls at hl ⊢
  have hl : lv_has ls 3 [(0, .ref h)] := hl
  obtain ⟨H, hH⟩ : ∃ H, H = s.heap := ⟨_, rfl⟩
  have hP : va_P D vwCl (WC ca h ad pa σ) H := by rw [hH]; exact hP
  have hS : va_S A s.heap H [] := by rw [hH]; exact hS
  obtain ⟨QQ, hQ⟩ : ∃ Q9, Q9 = MQ below (va_Qi (fun (r : Int32) (_ : Unit) => r = R) (fun (_ : Unit) (t : State) => pw_post D ca (WC ca h ad pa σ) s.heap.size (WC ca h ad pa σ) t) A) ([.ref h] : List Value).toArray s 0 0 A := ⟨_, rfl⟩
  rw [← hQ]
  show W _ _ _ _ _ _ _ _ _ _ s.heap _ _ _ _ _
  rw [← hH]
  have hR : (s_X8_allHunger_c4 (iter (s_X8_allHunger_l4 σ) ((σ 815 0).toNatClampNeg - 0) 0 (0 : Int32))) = R := hR
  refine lv_iconst (v := (0 : Int32)) hx hb dX8_allHunger_0 (by decide) ?_
  refine lv_istore_n (lv' := [(1, .int (0 : Int32)), (0, .ref h)]) hx hb dX8_allHunger_1 rfl hl (by decide) rfl (fun ls hl => ?_)
  refine lv_iconst (v := (0 : Int32)) hx hb dX8_allHunger_2 (by decide) ?_
  refine lv_istore_n (lv' := [(2, .int (0 : Int32)), (1, .int (0 : Int32)), (0, .ref h)]) hx hb dX8_allHunger_3 rfl hl (by decide) rfl (fun ls hl => ?_)
  have hE_1 : ∀ (v1_1 : Int32) (H : Heap) (locs : List Loc) (ls : Array Slot), s_X8_allHunger_c4 v1_1 = R → va_P D vwCl (WC ca h ad pa σ) H → va_D A (WC ca h ad pa σ) → va_S A s.heap H locs → lv_has ls 3 [(1, .int v1_1)] → W p l e ((headSpec wsX8_allHunger ({ frames := 0, cells := 0, slots := 0, locals := 0 })).room) s m ([.ref h] : List Value).toArray below meth c H locs 0 0 QQ (F0 m 30 ls []) := by
    intro v1_1 H locs ls hR hP hD hS hl
    have hR : v1_1 = R := hR
    refine lv_iload_n hx hb dX8_allHunger_30 rfl (lv_at hl 0 rfl) ?_
    subst hR
    rw [hQ]
    exact W.iret (v := v1_1) hx hb hr (fun t ht hW => ⟨⟨v1_1, (), rfl, rfl, ⟨by rw [ht]; exact hP, va_K.moved hW.alike hK, by rw [← hAe]; exact hD⟩⟩, hS.F ht⟩) hS.2.2 dX8_allHunger_31
  have hL_1 : ∀ (n k_1 : Nat) (v1_1 : Int32) (hk_1 : lpk (σ 815 0) k_1 n) (H : Heap) (locs : List Loc) (ls : Array Slot), s_X8_allHunger_c4 (iter (s_X8_allHunger_l4 σ) n k_1 v1_1) = R → va_P D vwCl (WC ca h ad pa σ) H → va_D A (WC ca h ad pa σ) → va_S A s.heap H locs → lv_has ls 3 [(2, .int (nI k_1)), (1, .int v1_1), (0, .ref h)] → W p l e ((headSpec wsX8_allHunger ({ frames := 0, cells := 0, slots := 0, locals := 0 })).room) s m ([.ref h] : List Value).toArray below meth c H locs 0 0 QQ (F0 m 4 ls []) := by
    intro n
    induction n with
    | zero =>
      intro k_1 v1_1 hk_1 H locs ls hR hP hD hS hl
      refine lv_iload_n hx hb dX8_allHunger_4 rfl (lv_at hl 0 rfl) ?_
      refine lv_aload_n hx hb dX8_allHunger_5 rfl (lv_at hl 2 rfl) ?_
      refine va_get (D := D) (ci := 8) (v := .int (σ 815 0)) (C := RX8) (T := TX8) (N := 19) hx hb hts hu8 hown hK hP 0 wc_0 rfl 15 (by decide) (hts (.fieldLink RX8 88 "GrazeBook" "herdCount" "I") (List.mem_cons_of_mem _ mw_225)) (fun _ h9 => h9) rfl dX8_allHunger_6 ?_
      refine lv_icmp_ge (tgt := 30) hx hb dX8_allHunger_9 (by decide) (fun _ => ?_) (fun c_2 => absurd (ge_end hk_1) c_2)
      exact hE_1 v1_1 _ _ _ hR hP hD hS (lv_sub hl [1] rfl)
    | succ n ih =>
      intro k_1 v1_1 hk_1 H locs ls hR hP hD hS hl
      obtain ⟨S_1, hB_1⟩ : ∃ s9, s_X8_allHunger_l4 σ k_1 v1_1 = s9 := ⟨_, rfl⟩
      have hR : s_X8_allHunger_c4 (iter (s_X8_allHunger_l4 σ) n (k_1 + 1) S_1) = R := by rw [← hB_1]; exact hR
      have hB_1 : (v1_1 + (σ 205 k_1)) = S_1 := hB_1
      refine lv_iload_n hx hb dX8_allHunger_4 rfl (lv_at hl 0 rfl) ?_
      refine lv_aload_n hx hb dX8_allHunger_5 rfl (lv_at hl 2 rfl) ?_
      refine va_get (D := D) (ci := 8) (v := .int (σ 815 0)) (C := RX8) (T := TX8) (N := 19) hx hb hts hu8 hown hK hP 0 wc_0 rfl 15 (by decide) (hts (.fieldLink RX8 88 "GrazeBook" "herdCount" "I") (List.mem_cons_of_mem _ mw_225)) (fun _ h9 => h9) rfl dX8_allHunger_6 ?_
      refine lv_icmp_ge (tgt := 30) hx hb dX8_allHunger_9 (by decide) (fun c_3 => absurd c_3 (ge_go hk_1)) (fun _ => ?_)
      refine lv_iload_n hx hb dX8_allHunger_12 rfl (lv_at hl 1 rfl) ?_
      refine lv_aload_n hx hb dX8_allHunger_13 rfl (lv_at hl 2 rfl) ?_
      refine va_get (D := D) (ci := 8) (v := .ref (ad 805)) (C := RX8) (T := TX8) (N := 19) hx hb hts hu8 hown hK hP 0 wc_0 rfl 5 (by decide) (hts (.fieldLink RX8 40 "GrazeBook" "herds" "[LGrazeBook$Drove;") (List.mem_cons_of_mem _ mw_215)) (fun _ h9 => h9) rfl dX8_allHunger_14 ?_
      refine lv_iload_n hx hb dX8_allHunger_17 rfl (lv_at hl 0 rfl) ?_
      refine va_aldq_k (k := k_1) (b := pa 3 k_1) hx hb hK hP 9 5 wc_9 rfl (ix_cl hk_1) (rf_at (k_ltb hk_1)) (ix_loop (N := 20) hk_1 (ix_815 hI) (by decide) (by decide)) dX8_allHunger_18 ?_
      refine va_get (D := D) (ci := 2) (v := .int (σ 205 k_1)) (C := RX2) (T := TX2) (N := 8) hx hb hts hu2 hown hK hP (pcD ca h ad pa σ k_1) (wc_aD (k_ltb hk_1)) rfl 5 (by decide) (hts (.fieldLink RX8 278 "GrazeBook$Drove" "hunger" "I") (List.mem_cons_of_mem _ mw_455)) (fun _ h9 => h9) rfl dX8_allHunger_19 ?_
      refine lv_iadd hx hb dX8_allHunger_22 ?_
      refine lv_istore_n (lv' := [(1, .int (v1_1 + (σ 205 k_1))), (2, .int (nI k_1)), (0, .ref h)]) hx hb dX8_allHunger_23 rfl hl (by decide) rfl (fun ls hl => ?_)
      refine lv_iinc (v := (nI (k_1 + 1))) (lv' := [(2, .int (nI (k_1 + 1))), (1, .int (v1_1 + (σ 205 k_1))), (0, .ref h)]) hx hb dX8_allHunger_24 hl (k := 1) rfl (by rw [show Int32.ofInt 1 = 1 from by decide]; exact nI_1 _) (by decide) rfl (fun ls hl => ?_)
      refine lv_goto (tgt := 4) hx hb dX8_allHunger_27 (by decide) ?_
      subst hB_1
      exact ih (k_1 + 1) (v1_1 + (σ 205 k_1)) (ge_next hk_1)  _ _ _ hR hP hD hS (lv_sub hl [0, 1, 2] rfl)
  exact hL_1 _ 0 (0 : Int32) ⟨rfl, by decide⟩  _ _ _ hR hP hD hS (lv_sub hl [0, 1, 2] rfl)

def s_X8_allEaten_c4  : Int32 → Int32 := fun x9 => match x9 with
  | v1_1 => v1_1
def s_X8_allEaten_l4 (σ : St) (k_1 : Nat) : Int32 → Int32 := fun x9 => match x9 with
  | v1_1 => (v1_1 + (σ 405 k_1))
def s_X8_allEaten (σ : St) : Int32 := (s_X8_allEaten_c4 (iter (s_X8_allEaten_l4 σ) ((σ 811 0).toNatClampNeg - 0) 0 (0 : Int32)))
set_option maxHeartbeats 1000000 in
set_option maxRecDepth 100000 in
theorem k_X8_allEaten (l : Launch) (D : va_G) (ca : Nat → ClassId) (h : Nat) (ad : Nat → Nat) (pa : Nat → Nat → Nat) (tb : Nat) (σ : St) (sz : Nat) (hI : IX σ)  (R : Int32) (hR : s_X8_allEaten σ = R) : Met l yX8_allEaten wsX8_allEaten ({ frames := 0, cells := 0, slots := 0, locals := 0 }) (va_Pc [.ref h] (cw_pre D ca (WC ca h ad pa σ) sz tb)) (va_Qi (fun (r : Int32) (_ : Unit) => r = R) (fun (_ : Unit) (t : State) => pw_post D ca (WC ca h ad pa σ) sz (WC ca h ad pa σ) t) (va_A (WC ca h ad pa σ) sz)) 0 0 (va_A (WC ca h ad pa σ) sz) := by
  refine Met.ofW (cc := cX8_allEaten) (maxL := 3) (ret := (some .int)) (by decide) rfl ?_
  intro p e s m args below meth c s₁ B hml hv
  obtain ⟨rfl, ⟨hsz, hP, hK, hD0⟩, hZ⟩ := hv
  have hx := B.exec
  have hb := B.bytes
  have hr := B.returns
  have hts := atoms_spec (ws := wsX8_allEaten) B.pre
  have hown : s.vm.findClass RX8 = some m.cls := findClass_of_methodNamed B.named
  have hlocks := B.notSynchronized
  have hu4 : ∀ w ∈ u_ws RX4 TX4 6, w ∈ wsX8_allEaten := fun w h => List.mem_cons_of_mem _ (uw4 w h)
  have hu8 : ∀ w ∈ u_ws RX8 TX8 19, w ∈ wsX8_allEaten := fun w h => List.mem_cons_of_mem _ (uw8 w h)
  subst hsz
  have hD := hD0.self (sz := s.heap.size)
  obtain ⟨A, hAe⟩ : ∃ A, A = va_A (WC ca h ad pa σ) s.heap.size := ⟨_, rfl⟩
  rw [← hAe] at hD hZ ⊢
  have hA : ∀ q : Nat, s.heap.size ≤ q → A q := fun q h => by rw [hAe]; exact Or.inr h
  have hS : va_S A s.heap s.heap [] := va_S.rf
  have hl := lv_entry ([.ref h]) (n := 3) (Nat.le_of_ble_eq_true rfl)
  rw [lg_entry_eq]
  generalize (lg_sl ([.ref h]) ++ List.replicate (3 - (lg_sl ([.ref h])).length) Slot.unset).toArray = ls at hl ⊢
  have hl : lv_has ls 3 [(0, .ref h)] := hl
  obtain ⟨H, hH⟩ : ∃ H, H = s.heap := ⟨_, rfl⟩
  have hP : va_P D vwCl (WC ca h ad pa σ) H := by rw [hH]; exact hP
  have hS : va_S A s.heap H [] := by rw [hH]; exact hS
  obtain ⟨QQ, hQ⟩ : ∃ Q9, Q9 = MQ below (va_Qi (fun (r : Int32) (_ : Unit) => r = R) (fun (_ : Unit) (t : State) => pw_post D ca (WC ca h ad pa σ) s.heap.size (WC ca h ad pa σ) t) A) ([.ref h] : List Value).toArray s 0 0 A := ⟨_, rfl⟩
  rw [← hQ]
  show W _ _ _ _ _ _ _ _ _ _ s.heap _ _ _ _ _
  rw [← hH]
  have hR : (s_X8_allEaten_c4 (iter (s_X8_allEaten_l4 σ) ((σ 811 0).toNatClampNeg - 0) 0 (0 : Int32))) = R := hR
  refine lv_iconst (v := (0 : Int32)) hx hb dX8_allEaten_0 (by decide) ?_
  refine lv_istore_n (lv' := [(1, .int (0 : Int32)), (0, .ref h)]) hx hb dX8_allEaten_1 rfl hl (by decide) rfl (fun ls hl => ?_)
  refine lv_iconst (v := (0 : Int32)) hx hb dX8_allEaten_2 (by decide) ?_
  refine lv_istore_n (lv' := [(2, .int (0 : Int32)), (1, .int (0 : Int32)), (0, .ref h)]) hx hb dX8_allEaten_3 rfl hl (by decide) rfl (fun ls hl => ?_)
  have hE_1 : ∀ (v1_1 : Int32) (H : Heap) (locs : List Loc) (ls : Array Slot), s_X8_allEaten_c4 v1_1 = R → va_P D vwCl (WC ca h ad pa σ) H → va_D A (WC ca h ad pa σ) → va_S A s.heap H locs → lv_has ls 3 [(1, .int v1_1)] → W p l e ((headSpec wsX8_allEaten ({ frames := 0, cells := 0, slots := 0, locals := 0 })).room) s m ([.ref h] : List Value).toArray below meth c H locs 0 0 QQ (F0 m 30 ls []) := by
    intro v1_1 H locs ls hR hP hD hS hl
    have hR : v1_1 = R := hR
    refine lv_iload_n hx hb dX8_allEaten_30 rfl (lv_at hl 0 rfl) ?_
    subst hR
    rw [hQ]
    exact W.iret (v := v1_1) hx hb hr (fun t ht hW => ⟨⟨v1_1, (), rfl, rfl, ⟨by rw [ht]; exact hP, va_K.moved hW.alike hK, by rw [← hAe]; exact hD⟩⟩, hS.F ht⟩) hS.2.2 dX8_allEaten_31
  have hL_1 : ∀ (n k_1 : Nat) (v1_1 : Int32) (hk_1 : lpk (σ 811 0) k_1 n) (H : Heap) (locs : List Loc) (ls : Array Slot), s_X8_allEaten_c4 (iter (s_X8_allEaten_l4 σ) n k_1 v1_1) = R → va_P D vwCl (WC ca h ad pa σ) H → va_D A (WC ca h ad pa σ) → va_S A s.heap H locs → lv_has ls 3 [(2, .int (nI k_1)), (1, .int v1_1), (0, .ref h)] → W p l e ((headSpec wsX8_allEaten ({ frames := 0, cells := 0, slots := 0, locals := 0 })).room) s m ([.ref h] : List Value).toArray below meth c H locs 0 0 QQ (F0 m 4 ls []) := by
    intro n
    induction n with
    | zero =>
      intro k_1 v1_1 hk_1 H locs ls hR hP hD hS hl
      refine lv_iload_n hx hb dX8_allEaten_4 rfl (lv_at hl 0 rfl) ?_
      refine lv_aload_n hx hb dX8_allEaten_5 rfl (lv_at hl 2 rfl) ?_
      refine va_get (D := D) (ci := 8) (v := .int (σ 811 0)) (C := RX8) (T := TX8) (N := 19) hx hb hts hu8 hown hK hP 0 wc_0 rfl 11 (by decide) (hts (.fieldLink RX8 75 "GrazeBook" "pieceCount" "I") (List.mem_cons_of_mem _ mw_221)) (fun _ h9 => h9) rfl dX8_allEaten_6 ?_
      refine lv_icmp_ge (tgt := 30) hx hb dX8_allEaten_9 (by decide) (fun _ => ?_) (fun c_2 => absurd (ge_end hk_1) c_2)
      exact hE_1 v1_1 _ _ _ hR hP hD hS (lv_sub hl [1] rfl)
    | succ n ih =>
      intro k_1 v1_1 hk_1 H locs ls hR hP hD hS hl
      obtain ⟨S_1, hB_1⟩ : ∃ s9, s_X8_allEaten_l4 σ k_1 v1_1 = s9 := ⟨_, rfl⟩
      have hR : s_X8_allEaten_c4 (iter (s_X8_allEaten_l4 σ) n (k_1 + 1) S_1) = R := by rw [← hB_1]; exact hR
      have hB_1 : (v1_1 + (σ 405 k_1)) = S_1 := hB_1
      refine lv_iload_n hx hb dX8_allEaten_4 rfl (lv_at hl 0 rfl) ?_
      refine lv_aload_n hx hb dX8_allEaten_5 rfl (lv_at hl 2 rfl) ?_
      refine va_get (D := D) (ci := 8) (v := .int (σ 811 0)) (C := RX8) (T := TX8) (N := 19) hx hb hts hu8 hown hK hP 0 wc_0 rfl 11 (by decide) (hts (.fieldLink RX8 75 "GrazeBook" "pieceCount" "I") (List.mem_cons_of_mem _ mw_221)) (fun _ h9 => h9) rfl dX8_allEaten_6 ?_
      refine lv_icmp_ge (tgt := 30) hx hb dX8_allEaten_9 (by decide) (fun c_3 => absurd c_3 (ge_go hk_1)) (fun _ => ?_)
      refine lv_iload_n hx hb dX8_allEaten_12 rfl (lv_at hl 1 rfl) ?_
      refine lv_aload_n hx hb dX8_allEaten_13 rfl (lv_at hl 2 rfl) ?_
      refine va_get (D := D) (ci := 8) (v := .ref (ad 800)) (C := RX8) (T := TX8) (N := 19) hx hb hts hu8 hown hK hP 0 wc_0 rfl 0 (by decide) (hts (.fieldLink RX8 11 "GrazeBook" "pieces" "[LGrazeBook$Ground;") (List.mem_cons_of_mem _ mw_210)) (fun _ h9 => h9) rfl dX8_allEaten_14 ?_
      refine lv_iload_n hx hb dX8_allEaten_17 rfl (lv_at hl 0 rfl) ?_
      refine va_aldq_k (k := k_1) (b := pa 0 k_1) hx hb hK hP 6 2 wc_6 rfl (ix_cl hk_1) (rf_at (k_ltb hk_1)) (ix_loop (N := 6) hk_1 (ix_811 hI) (by decide) (by decide)) dX8_allEaten_18 ?_
      refine va_get (D := D) (ci := 4) (v := .int (σ 405 k_1)) (C := RX4) (T := TX4) (N := 6) hx hb hts hu4 hown hK hP (pcG ca h ad pa σ k_1) (wc_aG (k_ltb hk_1)) rfl 5 (by decide) (hts (.fieldLink RX8 250 "GrazeBook$Ground" "eaten" "I") (List.mem_cons_of_mem _ mw_294)) (fun _ h9 => h9) rfl dX8_allEaten_19 ?_
      refine lv_iadd hx hb dX8_allEaten_22 ?_
      refine lv_istore_n (lv' := [(1, .int (v1_1 + (σ 405 k_1))), (2, .int (nI k_1)), (0, .ref h)]) hx hb dX8_allEaten_23 rfl hl (by decide) rfl (fun ls hl => ?_)
      refine lv_iinc (v := (nI (k_1 + 1))) (lv' := [(2, .int (nI (k_1 + 1))), (1, .int (v1_1 + (σ 405 k_1))), (0, .ref h)]) hx hb dX8_allEaten_24 hl (k := 1) rfl (by rw [show Int32.ofInt 1 = 1 from by decide]; exact nI_1 _) (by decide) rfl (fun ls hl => ?_)
      refine lv_goto (tgt := 4) hx hb dX8_allEaten_27 (by decide) ?_
      subst hB_1
      exact ih (k_1 + 1) (v1_1 + (σ 405 k_1)) (ge_next hk_1)  _ _ _ hR hP hD hS (lv_sub hl [0, 1, 2] rfl)
  exact hL_1 _ 0 (0 : Int32) ⟨rfl, by decide⟩  _ _ _ hR hP hD hS (lv_sub hl [0, 1, 2] rfl)

