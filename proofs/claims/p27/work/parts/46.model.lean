def s_X9_tries_c42  : (Int32 × St) → Int32 × St := fun x9 => match x9 with
  | (v6_4, τ_4) => (v6_4, τ_4)
def s_X9_tries_c89  : (Int32 × St) → (Int32 × St) := fun x9 => match x9 with
  | (v6_8, τ_8) => (v6_8, τ_8)
def s_X9_tries_j150 (a1 : Int32) (a5 : Int32) (k_4 : Nat) (k_8 : Nat) (v6_8 : Int32) (τ_8 : St) (y0_13 : Int32) : (Int32 × St) := ((v6_8 + (((s_X9_goesB τ_8 ((((τ_8 1 0) + (1 : Int32)) + ((nI k_4) * a5)) + (nI k_8))) 43 (a1.toNatClampNeg)) + y0_13)), (s_X9_goesB τ_8 ((((τ_8 1 0) + (1 : Int32)) + ((nI k_4) * a5)) + (nI k_8))))
def s_X9_tries_l89 (a1 : Int32) (a2 : Int32) (a3 : Int32) (a5 : Int32) (k_4 : Nat) (k_8 : Nat) : (Int32 × St) → (Int32 × St) := fun x9 => match x9 with
  | (v6_8, τ_8) => (if a3 = (2 : Int32) then (s_X9_tries_j150 a1 a5 k_4 k_8 v6_8 τ_8 ((s_X9_goesB τ_8 ((((τ_8 1 0) + (1 : Int32)) + ((nI k_4) * a5)) + (nI k_8))) 43 (a2.toNatClampNeg))) else (s_X9_tries_j150 a1 a5 k_4 k_8 v6_8 τ_8 (0 : Int32)))
def s_X9_tries_j86 (a1 : Int32) (a2 : Int32) (a3 : Int32) (a5 : Int32) (k_4 : Nat) (v6_4 : Int32) (τ_7 : St) : (Int32 × St) := (s_X9_tries_c89 (iter (s_X9_tries_l89 a1 a2 a3 a5 k_4) (a5.toNatClampNeg - 0) 0 (v6_4, τ_7)))
def s_X9_tries_l42 (a1 : Int32) (a2 : Int32) (a3 : Int32) (a5 : Int32) (k_4 : Nat) : (Int32 × St) → (Int32 × St) := fun x9 => match x9 with
  | (v6_4, τ_4) => (if a3 = (2 : Int32) then (s_X9_tries_j86 a1 a2 a3 a5 k_4 v6_4 (put (put τ_4 45 (a1.toNatClampNeg) (τ_4 47 ((a3 * (nI k_4)).toNatClampNeg))) 45 (a2.toNatClampNeg) (τ_4 47 (((a3 * (nI k_4)) + (1 : Int32)).toNatClampNeg)))) else (s_X9_tries_j86 a1 a2 a3 a5 k_4 v6_4 (put τ_4 45 (a1.toNatClampNeg) (τ_4 47 ((a3 * (nI k_4)).toNatClampNeg)))))
def s_X9_tries_c7 (a1 : Int32) (a2 : Int32) (a3 : Int32) (a4 : Int32) (a5 : Int32) : St → Int32 × St := fun x9 => match x9 with
  | τ_3 => (s_X9_tries_c42 (iter (s_X9_tries_l42 a1 a2 a3 a5) (a4.toNatClampNeg - 0) 0 ((0 : Int32), τ_3)))
def s_X9_tries_l7  (k_3 : Nat) : St → St := fun x9 => match x9 with
  | τ_3 => (put τ_3 44 k_3 (τ_3 13 k_3))
def s_X9_tries (σ : St) (a1 : Int32) (a2 : Int32) (a3 : Int32) (a4 : Int32) (a5 : Int32) : Int32 × St := (s_X9_tries_c7 a1 a2 a3 a4 a5 (iter s_X9_tries_l7 (((s_X9_places σ) 2 0).toNatClampNeg - 0) 0 (s_X9_places σ)))
theorem fr_s_X9_tries_c42  (s : (Int32 × St)) {f : Nat} (h43 : f ≠ 43) (h44 : f ≠ 44) (h45 : f ≠ 45) (h46 : f ≠ 46) : (s_X9_tries_c42 s).2 f = s.2 f := by
  obtain ⟨v6_4, τ_4⟩ := s
  unfold s_X9_tries_c42
  all_goals ((try dsimp only) <;> ((repeat' split) <;> (try simp only [put_fr, ne_eq, not_false_eq_true, h43, h44, h45, h46, fr_s_X9_places, fr_s_X9_goesB])))
theorem fr_s_X9_tries_c89  (s : (Int32 × St)) {f : Nat} (h43 : f ≠ 43) (h44 : f ≠ 44) (h45 : f ≠ 45) (h46 : f ≠ 46) : (s_X9_tries_c89 s).2 f = s.2 f := by
  obtain ⟨v6_8, τ_8⟩ := s
  unfold s_X9_tries_c89
  all_goals ((try dsimp only) <;> ((repeat' split) <;> (try simp only [put_fr, ne_eq, not_false_eq_true, h43, h44, h45, h46, fr_s_X9_places, fr_s_X9_goesB, fr_s_X9_tries_c42])))
theorem fr_s_X9_tries_j150 (a1 : Int32) (a5 : Int32) (k_4 : Nat) (k_8 : Nat) (v6_8 : Int32) (τ_8 : St) (y0_13 : Int32) {f : Nat} (h43 : f ≠ 43) (h44 : f ≠ 44) (h45 : f ≠ 45) (h46 : f ≠ 46) : (s_X9_tries_j150 a1 a5 k_4 k_8 v6_8 τ_8 y0_13).2 f = τ_8 f := by
  unfold s_X9_tries_j150
  all_goals ((try dsimp only) <;> ((repeat' split) <;> (try simp only [put_fr, ne_eq, not_false_eq_true, h43, h44, h45, h46, fr_s_X9_places, fr_s_X9_goesB, fr_s_X9_tries_c42, fr_s_X9_tries_c89])))
theorem fr_s_X9_tries_l89 (a1 : Int32) (a2 : Int32) (a3 : Int32) (a5 : Int32) (k_4 : Nat) (k_8 : Nat) (s : (Int32 × St)) {f : Nat} (h43 : f ≠ 43) (h44 : f ≠ 44) (h45 : f ≠ 45) (h46 : f ≠ 46) : (s_X9_tries_l89 a1 a2 a3 a5 k_4 k_8 s).2 f = s.2 f := by
  obtain ⟨v6_8, τ_8⟩ := s
  unfold s_X9_tries_l89
  all_goals ((try dsimp only) <;> ((repeat' split) <;> (try simp only [put_fr, ne_eq, not_false_eq_true, h43, h44, h45, h46, fr_s_X9_places, fr_s_X9_goesB, fr_s_X9_tries_c42, fr_s_X9_tries_c89, fr_s_X9_tries_j150])))
theorem fri_s_X9_tries_l89 (a1 : Int32) (a2 : Int32) (a3 : Int32) (a5 : Int32) (k_4 : Nat) (n k : Nat) (s : (Int32 × St)) {f : Nat} (h43 : f ≠ 43) (h44 : f ≠ 44) (h45 : f ≠ 45) (h46 : f ≠ 46) : (iter (s_X9_tries_l89 a1 a2 a3 a5 k_4) n k s).2 f = s.2 f := iter_fr (P := (fun s => s.2 f)) (fun k s => fr_s_X9_tries_l89 a1 a2 a3 a5 k_4 k s h43 h44 h45 h46) n k s
theorem fr_s_X9_tries_j86 (a1 : Int32) (a2 : Int32) (a3 : Int32) (a5 : Int32) (k_4 : Nat) (v6_4 : Int32) (τ_7 : St) {f : Nat} (h43 : f ≠ 43) (h44 : f ≠ 44) (h45 : f ≠ 45) (h46 : f ≠ 46) : (s_X9_tries_j86 a1 a2 a3 a5 k_4 v6_4 τ_7).2 f = τ_7 f := by
  unfold s_X9_tries_j86
  all_goals ((try dsimp only) <;> ((repeat' split) <;> (try simp only [put_fr, ne_eq, not_false_eq_true, h43, h44, h45, h46, fr_s_X9_places, fr_s_X9_goesB, fr_s_X9_tries_c42, fr_s_X9_tries_c89, fr_s_X9_tries_j150, fri_s_X9_tries_l89])))
theorem fr_s_X9_tries_l42 (a1 : Int32) (a2 : Int32) (a3 : Int32) (a5 : Int32) (k_4 : Nat) (s : (Int32 × St)) {f : Nat} (h43 : f ≠ 43) (h44 : f ≠ 44) (h45 : f ≠ 45) (h46 : f ≠ 46) : (s_X9_tries_l42 a1 a2 a3 a5 k_4 s).2 f = s.2 f := by
  obtain ⟨v6_4, τ_4⟩ := s
  unfold s_X9_tries_l42
  all_goals ((try dsimp only) <;> ((repeat' split) <;> (try simp only [put_fr, ne_eq, not_false_eq_true, h43, h44, h45, h46, fr_s_X9_places, fr_s_X9_goesB, fr_s_X9_tries_c42, fr_s_X9_tries_c89, fr_s_X9_tries_j150, fri_s_X9_tries_l89, fr_s_X9_tries_j86])))
theorem fri_s_X9_tries_l42 (a1 : Int32) (a2 : Int32) (a3 : Int32) (a5 : Int32) (n k : Nat) (s : (Int32 × St)) {f : Nat} (h43 : f ≠ 43) (h44 : f ≠ 44) (h45 : f ≠ 45) (h46 : f ≠ 46) : (iter (s_X9_tries_l42 a1 a2 a3 a5) n k s).2 f = s.2 f := iter_fr (P := (fun s => s.2 f)) (fun k s => fr_s_X9_tries_l42 a1 a2 a3 a5 k s h43 h44 h45 h46) n k s
theorem fr_s_X9_tries_c7 (a1 : Int32) (a2 : Int32) (a3 : Int32) (a4 : Int32) (a5 : Int32) (s : St) {f : Nat} (h43 : f ≠ 43) (h44 : f ≠ 44) (h45 : f ≠ 45) (h46 : f ≠ 46) : (s_X9_tries_c7 a1 a2 a3 a4 a5 s).2 f = s f := by
  unfold s_X9_tries_c7
  all_goals ((try dsimp only) <;> ((repeat' split) <;> (try simp only [put_fr, ne_eq, not_false_eq_true, h43, h44, h45, h46, fr_s_X9_places, fr_s_X9_goesB, fr_s_X9_tries_c42, fr_s_X9_tries_c89, fr_s_X9_tries_j150, fri_s_X9_tries_l89, fr_s_X9_tries_j86, fri_s_X9_tries_l42])))
theorem fr_s_X9_tries_l7  (k_3 : Nat) (s : St) {f : Nat} (h43 : f ≠ 43) (h44 : f ≠ 44) (h45 : f ≠ 45) (h46 : f ≠ 46) : (s_X9_tries_l7 k_3 s) f = s f := by
  unfold s_X9_tries_l7
  all_goals ((try dsimp only) <;> ((repeat' split) <;> (try simp only [put_fr, ne_eq, not_false_eq_true, h43, h44, h45, h46, fr_s_X9_places, fr_s_X9_goesB, fr_s_X9_tries_c42, fr_s_X9_tries_c89, fr_s_X9_tries_j150, fri_s_X9_tries_l89, fr_s_X9_tries_j86, fri_s_X9_tries_l42, fr_s_X9_tries_c7])))
theorem fri_s_X9_tries_l7  (n k : Nat) (s : St) {f : Nat} (h43 : f ≠ 43) (h44 : f ≠ 44) (h45 : f ≠ 45) (h46 : f ≠ 46) : (iter s_X9_tries_l7 n k s) f = s f := iter_fr (P := (fun s => s f)) (fun k s => fr_s_X9_tries_l7  k s h43 h44 h45 h46) n k s
theorem fr_s_X9_tries (σ : St) (a1 : Int32) (a2 : Int32) (a3 : Int32) (a4 : Int32) (a5 : Int32) {f : Nat} (h43 : f ≠ 43) (h44 : f ≠ 44) (h45 : f ≠ 45) (h46 : f ≠ 46) : (s_X9_tries σ a1 a2 a3 a4 a5 ).2 f = σ f := by
  unfold s_X9_tries
  all_goals ((try dsimp only) <;> ((repeat' split) <;> (try simp only [put_fr, ne_eq, not_false_eq_true, h43, h44, h45, h46, fr_s_X9_places, fr_s_X9_goesB, fr_s_X9_tries_c42, fr_s_X9_tries_c89, fr_s_X9_tries_j150, fri_s_X9_tries_l89, fr_s_X9_tries_j86, fri_s_X9_tries_l42, fr_s_X9_tries_c7, fri_s_X9_tries_l7])))
set_option maxHeartbeats 1000000 in
set_option maxRecDepth 100000 in
theorem k_X9_tries (l : Launch) (D : va_G) (ca : Nat → ClassId) (h : Nat) (ad : Nat → Nat) (σ : St) (a1 : Int32) (a2 : Int32) (a3 : Int32) (a4 : Int32) (a5 : Int32) (sz : Nat) (hI : IR σ) (ha1 : vp_in a1 20) (ho2 : a3 = 2 → vp_in a2 20) (hpl : okPl a3 a4 a5) (hd : (σ 1 0).toInt + a4.toInt * a5.toInt ≤ 720) (R : Int32 × St) (hR : s_X9_tries σ a1 a2 a3 a4 a5 = R) : Met l yX9_tries wsX9_tries ({ frames := 4, cells := 0, slots := 0, locals := 103 }) (va_Pc [.ref h, .int a1, .int a2, .int a3, .int a4, .int a5] (pw_pre D ca (WM ca h ad σ) sz)) (va_Qi (fun (r : Int32) (_ : Unit) => r = R.1) (fun (_ : Unit) (t : State) => pw_post D ca (WM ca h ad σ) sz (WM ca h ad (R.2)) t ∧ IR R.2) (va_A (WM ca h ad σ) sz)) 0 0 (va_A (WM ca h ad σ) sz) := by
  refine Met.ofW (cc := cX9_tries) (maxL := 9) (ret := (some .int)) (by decide) rfl ?_
  intro p e s m args below meth c s₁ B hml hv
  obtain ⟨rfl, hsz, hP, hK, hD0⟩ := hv
  have hx := B.exec
  have hb := B.bytes
  have hr := B.returns
  have hts := atoms_spec (ws := wsX9_tries) B.pre
  have hown : s.vm.findClass RX9 = some m.cls := findClass_of_methodNamed B.named
  have hlocks := B.notSynchronized
  have hu9 : ∀ w ∈ u_ws RX9 TX9 51, w ∈ wsX9_tries := fun w h => List.mem_cons_of_mem _ (uw9 w h)
  subst hsz
  have hD := hD0.self (sz := s.heap.size)
  obtain ⟨A, hAe⟩ : ∃ A, A = va_A (WM ca h ad σ) s.heap.size := ⟨_, rfl⟩
  rw [← hAe] at hD ⊢
  have hA : ∀ q : Nat, s.heap.size ≤ q → A q := fun q h => by rw [hAe]; exact Or.inr h
  have hS : va_S A s.heap s.heap [] := va_S.rf
  have hl := lv_entry ([.ref h, .int a1, .int a2, .int a3, .int a4, .int a5]) (n := 9) (Nat.le_of_ble_eq_true rfl)
  rw [lg_entry_eq]
  generalize (lg_sl ([.ref h, .int a1, .int a2, .int a3, .int a4, .int a5]) ++ List.replicate (9 - (lg_sl ([.ref h, .int a1, .int a2, .int a3, .int a4, .int a5])).length) Slot.unset).toArray = ls at hl ⊢
  have hl : lv_has ls 9 [(0, .ref h), (1, .int a1), (2, .int a2), (3, .int a3), (4, .int a4), (5, .int a5)] := hl
  obtain ⟨H, hH⟩ : ∃ H, H = s.heap := ⟨_, rfl⟩
  have hP : va_P D vwCl (WM ca h ad σ) H := by rw [hH]; exact hP
  have hS : va_S A s.heap H [] := by rw [hH]; exact hS
  obtain ⟨QQ, hQ⟩ : ∃ Q9, Q9 = MQ below (va_Qi (fun (r : Int32) (_ : Unit) => r = R.1) (fun (_ : Unit) (t : State) => pw_post D ca (WM ca h ad σ) s.heap.size (WM ca h ad (R.2)) t ∧ IR R.2) A) ([.ref h, .int a1, .int a2, .int a3, .int a4, .int a5] : List Value).toArray s 0 0 A := ⟨_, rfl⟩
  rw [← hQ]
  show W _ _ _ _ _ _ _ _ _ _ s.heap _ _ _ _ _
  rw [← hH]
  have hR : (s_X9_tries_c7 a1 a2 a3 a4 a5 (iter s_X9_tries_l7 (((s_X9_places σ) 2 0).toNatClampNeg - 0) 0 (s_X9_places σ))) = R := hR
  refine lv_aload_n hx hb dX9_tries_0 rfl (lv_at hl 0 rfl) ?_
  have hF := pw_free hD hS hA
  refine va_callv (va_runV (As := []) (rest := []) ⟨hx, hb, hml, hown, hts⟩ (k_X9_places l D ca h ad σ H.size hI _ rfl) (cwV 0 hts gX9_tries_X9_places rfl rfl rfl (by decide +kernel) ⟨Nat.le_of_ble_eq_true rfl, Nat.le_of_ble_eq_true rfl⟩) ⟨pw_blind, va_recv hK hP (ci := 9) (q0 := 0) rfl wm_0, pw_give hP hK hD⟩ rfl rfl hl.1 rfl (lv_room (Nat.le_of_ble_eq_true rfl)) dX9_tries_1 ⟨Nat.le_of_ble_eq_true rfl, Nat.le_of_ble_eq_true rfl⟩) hS (fun q _ h => hF q h) hF (fun u t H1 locs ht hvm hw hB hz1 hk1 hS => ?_)
  obtain ⟨hB, hI_2⟩ := hB
  obtain ⟨hP, hD⟩ := pw_back hF ht hB
  clear hB hk1 hz1 hF
  generalize H1 = H at hP hS ⊢
  refine lv_iconst (v := (0 : Int32)) hx hb dX9_tries_4 (by decide) ?_
  refine lv_istore (lv' := [(6, .int (0 : Int32)), (0, .ref h), (1, .int a1), (2, .int a2), (3, .int a3), (4, .int a4), (5, .int a5)]) hx hb dX9_tries_5 hl (by decide) rfl (fun ls hl => ?_)
  have hE_3 : ∀ (τ_3 : St) (hI_3 : IR τ_3) (hf1_3 : τ_3 1 = σ 1) (H : Heap) (locs : List Loc) (ls : Array Slot), s_X9_tries_c7 a1 a2 a3 a4 a5 τ_3 = R → va_P D vwCl (WM ca h ad τ_3) H → va_D A (WM ca h ad τ_3) → va_S A s.heap H locs → lv_has ls 9 [(0, .ref h), (1, .int a1), (2, .int a2), (3, .int a3), (4, .int a4), (5, .int a5)] → W p l e ((headSpec wsX9_tries ({ frames := 4, cells := 0, slots := 0, locals := 103 })).room) s m ([.ref h, .int a1, .int a2, .int a3, .int a4, .int a5] : List Value).toArray below meth c H locs 0 0 QQ (F0 m 36 ls []) := by
    intro τ_3 hI_3 hf1_3 H locs ls hR hP hD hS hl
    have hR : (s_X9_tries_c42 (iter (s_X9_tries_l42 a1 a2 a3 a5) (a4.toNatClampNeg - 0) 0 ((0 : Int32), τ_3))) = R := hR
    refine lv_iconst (v := (0 : Int32)) hx hb dX9_tries_36 (by decide) ?_
    refine lv_istore (lv' := [(6, .int (0 : Int32)), (0, .ref h), (1, .int a1), (2, .int a2), (3, .int a3), (4, .int a4), (5, .int a5)]) hx hb dX9_tries_37 hl (by decide) rfl (fun ls hl => ?_)
    refine lv_iconst (v := (0 : Int32)) hx hb dX9_tries_39 (by decide) ?_
    refine lv_istore (lv' := [(7, .int (0 : Int32)), (6, .int (0 : Int32)), (0, .ref h), (1, .int a1), (2, .int a2), (3, .int a3), (4, .int a4), (5, .int a5)]) hx hb dX9_tries_40 hl (by decide) rfl (fun ls hl => ?_)
    have hE_4 : ∀ (v6_4 : Int32) (τ_4 : St) (hI_4 : IR τ_4) (hf1_4 : τ_4 1 = σ 1) (H : Heap) (locs : List Loc) (ls : Array Slot), s_X9_tries_c42 (v6_4, τ_4) = R → va_P D vwCl (WM ca h ad τ_4) H → va_D A (WM ca h ad τ_4) → va_S A s.heap H locs → lv_has ls 9 [(6, .int v6_4)] → W p l e ((headSpec wsX9_tries ({ frames := 4, cells := 0, slots := 0, locals := 103 })).room) s m ([.ref h, .int a1, .int a2, .int a3, .int a4, .int a5] : List Value).toArray below meth c H locs 0 0 QQ (F0 m 166 ls []) := by
      intro v6_4 τ_4 hI_4 hf1_4 H locs ls hR hP hD hS hl
      have hR : (v6_4, τ_4) = R := hR
      refine lv_iload hx hb dX9_tries_166 (lv_at hl 0 rfl) ?_
      have hI9 : IR τ_4 := hI_4
      subst hR
      rw [hQ]
      exact W.iret (v := v6_4) hx hb hr (fun t ht hW => ⟨⟨v6_4, (), rfl, rfl, ⟨by rw [ht]; exact hP, va_K.moved hW.alike hK, by rw [← hAe]; exact hD⟩, hI9⟩, hS.F ht⟩) hS.2.2 dX9_tries_168
    have hL_4 : ∀ (n k_4 : Nat) (v6_4 : Int32) (τ_4 : St) (hk_4 : lpk a4 k_4 n) (hI_4 : IR τ_4) (hf1_4 : τ_4 1 = σ 1) (H : Heap) (locs : List Loc) (ls : Array Slot), s_X9_tries_c42 (iter (s_X9_tries_l42 a1 a2 a3 a5) n k_4 (v6_4, τ_4)) = R → va_P D vwCl (WM ca h ad τ_4) H → va_D A (WM ca h ad τ_4) → va_S A s.heap H locs → lv_has ls 9 [(7, .int (nI k_4)), (6, .int v6_4), (0, .ref h), (1, .int a1), (2, .int a2), (3, .int a3), (4, .int a4), (5, .int a5)] → W p l e ((headSpec wsX9_tries ({ frames := 4, cells := 0, slots := 0, locals := 103 })).room) s m ([.ref h, .int a1, .int a2, .int a3, .int a4, .int a5] : List Value).toArray below meth c H locs 0 0 QQ (F0 m 42 ls []) := by
      intro n
      induction n with
      | zero =>
        intro k_4 v6_4 τ_4 hk_4 hI_4 hf1_4 H locs ls hR hP hD hS hl
        refine lv_iload hx hb dX9_tries_42 (lv_at hl 0 rfl) ?_
        refine lv_iload hx hb dX9_tries_44 (lv_at hl 6 rfl) ?_
        refine lv_icmp_ge (tgt := 166) hx hb dX9_tries_46 (by decide) (fun _ => ?_) (fun c_5 => absurd (ge_end hk_4) c_5)
        exact hE_4 v6_4 τ_4 hI_4 hf1_4 _ _ _ hR hP hD hS (lv_sub hl [1] rfl)
      | succ n ih =>
        intro k_4 v6_4 τ_4 hk_4 hI_4 hf1_4 H locs ls hR hP hD hS hl
        obtain ⟨S_4, hB_4⟩ : ∃ s9, s_X9_tries_l42 a1 a2 a3 a5 k_4 (v6_4, τ_4) = s9 := ⟨_, rfl⟩
        have hR : s_X9_tries_c42 (iter (s_X9_tries_l42 a1 a2 a3 a5) n (k_4 + 1) S_4) = R := by rw [← hB_4]; exact hR
        have hB_4 : (if a3 = (2 : Int32) then (s_X9_tries_j86 a1 a2 a3 a5 k_4 v6_4 (put (put τ_4 45 (a1.toNatClampNeg) (τ_4 47 ((a3 * (nI k_4)).toNatClampNeg))) 45 (a2.toNatClampNeg) (τ_4 47 (((a3 * (nI k_4)) + (1 : Int32)).toNatClampNeg)))) else (s_X9_tries_j86 a1 a2 a3 a5 k_4 v6_4 (put τ_4 45 (a1.toNatClampNeg) (τ_4 47 ((a3 * (nI k_4)).toNatClampNeg))))) = S_4 := hB_4
        refine lv_iload hx hb dX9_tries_42 (lv_at hl 0 rfl) ?_
        refine lv_iload hx hb dX9_tries_44 (lv_at hl 6 rfl) ?_
        refine lv_icmp_ge (tgt := 166) hx hb dX9_tries_46 (by decide) (fun c_6 => absurd c_6 (ge_go hk_4)) (fun _ => ?_)
        refine lv_aload_n hx hb dX9_tries_49 rfl (lv_at hl 2 rfl) ?_
        refine va_get (D := D) (ci := 9) (v := .ref (ad 45)) (C := RX9) (T := TX9) (N := 51) hx hb hts hu9 hown hK hP 0 wm_0 rfl 45 (by decide) (hts (.fieldLink RX9 110 "GrazeBookModel" "tryPiece" "[I") (List.mem_cons_of_mem _ mw_828)) (fun _ h9 => h9) rfl dX9_tries_50 ?_
        refine lv_iload_n hx hb dX9_tries_53 rfl (lv_at hl 3 rfl) ?_
        refine lv_aload_n hx hb dX9_tries_54 rfl (lv_at hl 2 rfl) ?_
        refine va_get (D := D) (ci := 9) (v := .ref (ad 47)) (C := RX9) (T := TX9) (N := 51) hx hb hts hu9 hown hK hP 0 wm_0 rfl 47 (by decide) (hts (.fieldLink RX9 116 "GrazeBookModel" "trial" "[I") (List.mem_cons_of_mem _ mw_830)) (fun _ h9 => h9) rfl dX9_tries_55 ?_
        refine lv_iload_n hx hb dX9_tries_58 rfl (lv_at hl 5 rfl) ?_
        refine lv_iload hx hb dX9_tries_59 (lv_at hl 0 rfl) ?_
        refine lv_imul hx hb dX9_tries_61 ?_
        refine va_iald_k (k := ((a3 * (nI k_4)).toNatClampNeg)) (v := (τ_4 47 ((a3 * (nI k_4)).toNatClampNeg))) hx hb hK hP 36 0 wm_a47 rfl rfl rfl (pl_1 hpl hk_4).1 dX9_tries_62 ?_
        refine va_iast_k (k := (a1.toNatClampNeg)) hx hb hK hP hD hS 34 0 wm_a45 rfl rfl ha1 dX9_tries_63 (fun H locs hP hD hS => ?_)
        rw [wm_s45] at hP hD
        refine lv_iload_n hx hb dX9_tries_64 rfl (lv_at hl 5 rfl) ?_
        refine lv_iconst (v := (2 : Int32)) hx hb dX9_tries_65 (by decide) ?_
        have hJ_7 : ∀ (τ_7 : St) (hI_7 : IR τ_7) (hf1_7 : τ_7 1 = σ 1) (H : Heap) (locs : List Loc) (ls : Array Slot), s_X9_tries_j86 a1 a2 a3 a5 k_4 v6_4 τ_7 = S_4 → va_P D vwCl (WM ca h ad τ_7) H → va_D A (WM ca h ad τ_7) → va_S A s.heap H locs → lv_has ls 9 [(7, .int (nI k_4)), (6, .int v6_4), (0, .ref h), (1, .int a1), (2, .int a2), (3, .int a3), (4, .int a4), (5, .int a5)] → W p l e ((headSpec wsX9_tries ({ frames := 4, cells := 0, slots := 0, locals := 103 })).room) s m ([.ref h, .int a1, .int a2, .int a3, .int a4, .int a5] : List Value).toArray below meth c H locs 0 0 QQ (F0 m 86 ls []) := by
          intro τ_7 hI_7 hf1_7 H locs ls hB_4 hP hD hS hl
          have hB_4 : (s_X9_tries_c89 (iter (s_X9_tries_l89 a1 a2 a3 a5 k_4) (a5.toNatClampNeg - 0) 0 (v6_4, τ_7))) = S_4 := hB_4
          refine lv_iconst (v := (0 : Int32)) hx hb dX9_tries_86 (by decide) ?_
          refine lv_istore (lv' := [(8, .int (0 : Int32)), (7, .int (nI k_4)), (6, .int v6_4), (0, .ref h), (1, .int a1), (2, .int a2), (3, .int a3), (4, .int a4), (5, .int a5)]) hx hb dX9_tries_87 hl (by decide) rfl (fun ls hl => ?_)
          have hE_8 : ∀ (v6_8 : Int32) (τ_8 : St) (hI_8 : IR τ_8) (hf1_8 : τ_8 1 = σ 1) (H : Heap) (locs : List Loc) (ls : Array Slot), s_X9_tries_c89 (v6_8, τ_8) = S_4 → va_P D vwCl (WM ca h ad τ_8) H → va_D A (WM ca h ad τ_8) → va_S A s.heap H locs → lv_has ls 9 [(7, .int (nI k_4)), (6, .int v6_8), (0, .ref h), (1, .int a1), (2, .int a2), (3, .int a3), (4, .int a4), (5, .int a5)] → W p l e ((headSpec wsX9_tries ({ frames := 4, cells := 0, slots := 0, locals := 103 })).room) s m ([.ref h, .int a1, .int a2, .int a3, .int a4, .int a5] : List Value).toArray below meth c H locs 0 0 QQ (F0 m 160 ls []) := by
            intro v6_8 τ_8 hI_8 hf1_8 H locs ls hB_4 hP hD hS hl
            have hB_4 : (v6_8, τ_8) = S_4 := hB_4
            refine lv_iinc (v := (nI (k_4 + 1))) (lv' := [(7, .int (nI (k_4 + 1))), (6, .int v6_8), (0, .ref h), (1, .int a1), (2, .int a2), (3, .int a3), (4, .int a4), (5, .int a5)]) hx hb dX9_tries_160 hl (k := 0) rfl (by rw [show Int32.ofInt 1 = 1 from by decide]; exact nI_1 _) (by decide) rfl (fun ls hl => ?_)
            refine lv_goto (tgt := 42) hx hb dX9_tries_163 (by decide) ?_
            subst hB_4
            exact ih (k_4 + 1) v6_8 τ_8 (ge_next hk_4) hI_8 hf1_8 _ _ _ hR hP hD hS (lv_sub hl [0, 1, 2, 3, 4, 5, 6, 7] rfl)
          have hL_8 : ∀ (n k_8 : Nat) (v6_8 : Int32) (τ_8 : St) (hk_8 : lpk a5 k_8 n) (hI_8 : IR τ_8) (hf1_8 : τ_8 1 = σ 1) (H : Heap) (locs : List Loc) (ls : Array Slot), s_X9_tries_c89 (iter (s_X9_tries_l89 a1 a2 a3 a5 k_4) n k_8 (v6_8, τ_8)) = S_4 → va_P D vwCl (WM ca h ad τ_8) H → va_D A (WM ca h ad τ_8) → va_S A s.heap H locs → lv_has ls 9 [(8, .int (nI k_8)), (7, .int (nI k_4)), (6, .int v6_8), (0, .ref h), (1, .int a1), (2, .int a2), (3, .int a3), (4, .int a4), (5, .int a5)] → W p l e ((headSpec wsX9_tries ({ frames := 4, cells := 0, slots := 0, locals := 103 })).room) s m ([.ref h, .int a1, .int a2, .int a3, .int a4, .int a5] : List Value).toArray below meth c H locs 0 0 QQ (F0 m 89 ls []) := by
            intro n
            induction n with
            | zero =>
              intro k_8 v6_8 τ_8 hk_8 hI_8 hf1_8 H locs ls hB_4 hP hD hS hl
              refine lv_iload hx hb dX9_tries_89 (lv_at hl 0 rfl) ?_
              refine lv_iload hx hb dX9_tries_91 (lv_at hl 8 rfl) ?_
              refine lv_icmp_ge (tgt := 160) hx hb dX9_tries_93 (by decide) (fun _ => ?_) (fun c_9 => absurd (ge_end hk_8) c_9)
              exact hE_8 v6_8 τ_8 hI_8 hf1_8 _ _ _ hB_4 hP hD hS (lv_sub hl [1, 2, 3, 4, 5, 6, 7, 8] rfl)
            | succ n ih =>
              intro k_8 v6_8 τ_8 hk_8 hI_8 hf1_8 H locs ls hB_4 hP hD hS hl
              obtain ⟨S_8, hB_8⟩ : ∃ s9, s_X9_tries_l89 a1 a2 a3 a5 k_4 k_8 (v6_8, τ_8) = s9 := ⟨_, rfl⟩
              have hB_4 : s_X9_tries_c89 (iter (s_X9_tries_l89 a1 a2 a3 a5 k_4) n (k_8 + 1) S_8) = S_4 := by rw [← hB_8]; exact hB_4
              have hB_8 : (if a3 = (2 : Int32) then (s_X9_tries_j150 a1 a5 k_4 k_8 v6_8 τ_8 ((s_X9_goesB τ_8 ((((τ_8 1 0) + (1 : Int32)) + ((nI k_4) * a5)) + (nI k_8))) 43 (a2.toNatClampNeg))) else (s_X9_tries_j150 a1 a5 k_4 k_8 v6_8 τ_8 (0 : Int32))) = S_8 := hB_8
              refine lv_iload hx hb dX9_tries_89 (lv_at hl 0 rfl) ?_
              refine lv_iload hx hb dX9_tries_91 (lv_at hl 8 rfl) ?_
              refine lv_icmp_ge (tgt := 160) hx hb dX9_tries_93 (by decide) (fun c_10 => absurd c_10 (ge_go hk_8)) (fun _ => ?_)
              refine lv_aload_n hx hb dX9_tries_96 rfl (lv_at hl 3 rfl) ?_
              refine lv_aload_n hx hb dX9_tries_97 rfl (lv_at hl 3 rfl) ?_
              refine va_get (D := D) (ci := 9) (v := .ref (ad 44)) (C := RX9) (T := TX9) (N := 51) hx hb hts hu9 hown hK hP 0 wm_0 rfl 44 (by decide) (hts (.fieldLink RX9 107 "GrazeBookModel" "tryGrass" "[I") (List.mem_cons_of_mem _ mw_827)) (fun _ h9 => h9) rfl dX9_tries_98 ?_
              refine lv_aload_n hx hb dX9_tries_101 rfl (lv_at hl 3 rfl) ?_
              refine va_get (D := D) (ci := 9) (v := .ref (ad 45)) (C := RX9) (T := TX9) (N := 51) hx hb hts hu9 hown hK hP 0 wm_0 rfl 45 (by decide) (hts (.fieldLink RX9 110 "GrazeBookModel" "tryPiece" "[I") (List.mem_cons_of_mem _ mw_828)) (fun _ h9 => h9) rfl dX9_tries_102 ?_
              refine lv_aload_n hx hb dX9_tries_105 rfl (lv_at hl 3 rfl) ?_
              refine va_get (D := D) (ci := 9) (v := .int (τ_8 1 0)) (C := RX9) (T := TX9) (N := 51) hx hb hts hu9 hown hK hP 0 wm_0 rfl 1 (by decide) (hts (.fieldLink RX9 141 "GrazeBookModel" "day" "I") (List.mem_cons_of_mem _ mw_784)) (fun _ h9 => h9) rfl dX9_tries_106 ?_
              refine lv_iconst (v := (1 : Int32)) hx hb dX9_tries_109 (by decide) ?_
              refine lv_iadd hx hb dX9_tries_110 ?_
              refine lv_iload hx hb dX9_tries_111 (lv_at hl 1 rfl) ?_
              refine lv_iload hx hb dX9_tries_113 (lv_at hl 8 rfl) ?_
              refine lv_imul hx hb dX9_tries_115 ?_
              refine lv_iadd hx hb dX9_tries_116 ?_
              refine lv_iload hx hb dX9_tries_117 (lv_at hl 0 rfl) ?_
              refine lv_iadd hx hb dX9_tries_119 ?_
              refine lv_aload_n hx hb dX9_tries_120 rfl (lv_at hl 3 rfl) ?_
              refine va_get (D := D) (ci := 9) (v := .ref (ad 46)) (C := RX9) (T := TX9) (N := 51) hx hb hts hu9 hown hK hP 0 wm_0 rfl 46 (by decide) (hts (.fieldLink RX9 113 "GrazeBookModel" "eatenNow" "[I") (List.mem_cons_of_mem _ mw_829)) (fun _ h9 => h9) rfl dX9_tries_121 ?_
              have hF := pw_free hD hS hA
              refine va_callv (va_runV (As := [.ref (ad 44), .ref (ad 45), .int ((((τ_8 1 0) + (1 : Int32)) + ((nI k_4) * a5)) + (nI k_8)), .ref (ad 46)]) (rest := []) ⟨hx, hb, hml, hown, hts⟩ (k_X9_goesB l D ca h ad τ_8 ((((τ_8 1 0) + (1 : Int32)) + ((nI k_4) * a5)) + (nI k_8)) H.size hI_8 (pl_on hpl (by rw [congrFun hf1_8 0]; exact (ir_1 hI).1) (by rw [congrFun hf1_8 0]; exact hd) hk_4 hk_8) _ rfl) (cwV 4 hts gX9_tries_X9_goes rfl rfl rfl (by decide +kernel) ⟨Nat.le_of_ble_eq_true rfl, Nat.le_of_ble_eq_true rfl⟩) ⟨pw_blind, va_recv hK hP (ci := 9) (q0 := 0) rfl wm_0, pw_give hP hK hD⟩ rfl rfl hl.1 rfl (lv_room (Nat.le_of_ble_eq_true rfl)) dX9_tries_124 ⟨Nat.le_of_ble_eq_true rfl, Nat.le_of_ble_eq_true rfl⟩) hS (fun q _ h => hF q h) hF (fun u t H1 locs ht hvm hw hB hz1 hk1 hS => ?_)
              obtain ⟨hB, hI_12⟩ := hB
              obtain ⟨hP, hD⟩ := pw_back hF ht hB
              clear hB hk1 hz1 hF
              generalize H1 = H at hP hS ⊢
              refine lv_iload hx hb dX9_tries_127 (lv_at hl 2 rfl) ?_
              refine lv_aload_n hx hb dX9_tries_129 rfl (lv_at hl 3 rfl) ?_
              refine va_get (D := D) (ci := 9) (v := .ref (ad 43)) (C := RX9) (T := TX9) (N := 51) hx hb hts hu9 hown hK hP 0 wm_0 rfl 43 (by decide) (hts (.fieldLink RX9 104 "GrazeBookModel" "hunger" "[I") (List.mem_cons_of_mem _ mw_826)) (fun _ h9 => h9) rfl dX9_tries_130 ?_
              refine lv_iload_n hx hb dX9_tries_133 rfl (lv_at hl 4 rfl) ?_
              refine va_iald_k (k := (a1.toNatClampNeg)) (v := ((s_X9_goesB τ_8 ((((τ_8 1 0) + (1 : Int32)) + ((nI k_4) * a5)) + (nI k_8))) 43 (a1.toNatClampNeg))) hx hb hK hP 32 0 wm_a43 rfl rfl rfl ha1 dX9_tries_134 ?_
              refine lv_iload_n hx hb dX9_tries_135 rfl (lv_at hl 6 rfl) ?_
              refine lv_iconst (v := (2 : Int32)) hx hb dX9_tries_136 (by decide) ?_
              have hJ_13 : ∀ (y0_13 : Int32) (H : Heap) (locs : List Loc) (ls : Array Slot), s_X9_tries_j150 a1 a5 k_4 k_8 v6_8 τ_8 y0_13 = S_8 → va_P D vwCl (WM ca h ad (s_X9_goesB τ_8 ((((τ_8 1 0) + (1 : Int32)) + ((nI k_4) * a5)) + (nI k_8)))) H → va_D A (WM ca h ad (s_X9_goesB τ_8 ((((τ_8 1 0) + (1 : Int32)) + ((nI k_4) * a5)) + (nI k_8)))) → va_S A s.heap H locs → lv_has ls 9 [(8, .int (nI k_8)), (7, .int (nI k_4)), (0, .ref h), (1, .int a1), (2, .int a2), (3, .int a3), (4, .int a4), (5, .int a5)] → W p l e ((headSpec wsX9_tries ({ frames := 4, cells := 0, slots := 0, locals := 103 })).room) s m ([.ref h, .int a1, .int a2, .int a3, .int a4, .int a5] : List Value).toArray below meth c H locs 0 0 QQ (F0 m 150 ls [.int y0_13, .int ((s_X9_goesB τ_8 ((((τ_8 1 0) + (1 : Int32)) + ((nI k_4) * a5)) + (nI k_8))) 43 (a1.toNatClampNeg)), .int v6_8]) := by
                intro y0_13 H locs ls hB_8 hP hD hS hl
                have hB_8 : ((v6_8 + (((s_X9_goesB τ_8 ((((τ_8 1 0) + (1 : Int32)) + ((nI k_4) * a5)) + (nI k_8))) 43 (a1.toNatClampNeg)) + y0_13)), (s_X9_goesB τ_8 ((((τ_8 1 0) + (1 : Int32)) + ((nI k_4) * a5)) + (nI k_8)))) = S_8 := hB_8
                refine lv_iadd hx hb dX9_tries_150 ?_
                refine lv_iadd hx hb dX9_tries_151 ?_
                refine lv_istore (lv' := [(6, .int (v6_8 + (((s_X9_goesB τ_8 ((((τ_8 1 0) + (1 : Int32)) + ((nI k_4) * a5)) + (nI k_8))) 43 (a1.toNatClampNeg)) + y0_13))), (8, .int (nI k_8)), (7, .int (nI k_4)), (0, .ref h), (1, .int a1), (2, .int a2), (3, .int a3), (4, .int a4), (5, .int a5)]) hx hb dX9_tries_152 hl (by decide) rfl (fun ls hl => ?_)
                refine lv_iinc (v := (nI (k_8 + 1))) (lv' := [(8, .int (nI (k_8 + 1))), (6, .int (v6_8 + (((s_X9_goesB τ_8 ((((τ_8 1 0) + (1 : Int32)) + ((nI k_4) * a5)) + (nI k_8))) 43 (a1.toNatClampNeg)) + y0_13))), (7, .int (nI k_4)), (0, .ref h), (1, .int a1), (2, .int a2), (3, .int a3), (4, .int a4), (5, .int a5)]) hx hb dX9_tries_154 hl (k := 1) rfl (by rw [show Int32.ofInt 1 = 1 from by decide]; exact nI_1 _) (by decide) rfl (fun ls hl => ?_)
                refine lv_goto (tgt := 89) hx hb dX9_tries_157 (by decide) ?_
                subst hB_8
                exact ih (k_8 + 1) (v6_8 + (((s_X9_goesB τ_8 ((((τ_8 1 0) + (1 : Int32)) + ((nI k_4) * a5)) + (nI k_8))) 43 (a1.toNatClampNeg)) + y0_13)) (s_X9_goesB τ_8 ((((τ_8 1 0) + (1 : Int32)) + ((nI k_4) * a5)) + (nI k_8))) (ge_next hk_8) hI_12 ((fr_s_X9_goesB τ_8 ((((τ_8 1 0) + (1 : Int32)) + ((nI k_4) * a5)) + (nI k_8)) (f := 1) (by decide) (by decide) (by decide)).trans hf1_8) _ _ _ hB_4 hP hD hS (lv_sub hl [0, 2, 1, 3, 4, 5, 6, 7, 8] rfl)
              refine lv_icmp_ne (tgt := 149) hx hb dX9_tries_137 (by decide) (fun c_14 => ?_) (fun c_14 => ?_)
              · have hB_8 := (if_neg c_14).symm.trans hB_8
                refine lv_iconst (v := (0 : Int32)) hx hb dX9_tries_149 (by decide) ?_
                exact hJ_13 (0 : Int32) _ _ _ hB_8 hP hD hS (lv_sub hl [0, 1, 3, 4, 5, 6, 7, 8] rfl)
              · have hB_8 := (if_pos c_14).symm.trans hB_8
                refine lv_aload_n hx hb dX9_tries_140 rfl (lv_at hl 3 rfl) ?_
                refine va_get (D := D) (ci := 9) (v := .ref (ad 43)) (C := RX9) (T := TX9) (N := 51) hx hb hts hu9 hown hK hP 0 wm_0 rfl 43 (by decide) (hts (.fieldLink RX9 104 "GrazeBookModel" "hunger" "[I") (List.mem_cons_of_mem _ mw_826)) (fun _ h9 => h9) rfl dX9_tries_141 ?_
                refine lv_iload_n hx hb dX9_tries_144 rfl (lv_at hl 5 rfl) ?_
                refine va_iald_k (k := (a2.toNatClampNeg)) (v := ((s_X9_goesB τ_8 ((((τ_8 1 0) + (1 : Int32)) + ((nI k_4) * a5)) + (nI k_8))) 43 (a2.toNatClampNeg))) hx hb hK hP 32 0 wm_a43 rfl rfl rfl (ho2 c_14) dX9_tries_145 ?_
                refine lv_goto (tgt := 150) hx hb dX9_tries_146 (by decide) ?_
                exact hJ_13 ((s_X9_goesB τ_8 ((((τ_8 1 0) + (1 : Int32)) + ((nI k_4) * a5)) + (nI k_8))) 43 (a2.toNatClampNeg)) _ _ _ hB_8 hP hD hS (lv_sub hl [0, 1, 3, 4, 5, 6, 7, 8] rfl)
          exact hL_8 _ 0 v6_4 τ_7 ⟨rfl, by decide⟩ hI_7 hf1_7 _ _ _ hB_4 hP hD hS (lv_sub hl [0, 1, 2, 3, 4, 5, 6, 7, 8] rfl)
        refine lv_icmp_ne (tgt := 86) hx hb dX9_tries_66 (by decide) (fun c_15 => ?_) (fun c_15 => ?_)
        · have hB_4 := (if_neg c_15).symm.trans hB_4
          exact hJ_7 (put τ_4 45 (a1.toNatClampNeg) (τ_4 47 ((a3 * (nI k_4)).toNatClampNeg))) hI_4 hf1_4 _ _ _ hB_4 hP hD hS (lv_sub hl [0, 1, 2, 3, 4, 5, 6, 7] rfl)
        · have hB_4 := (if_pos c_15).symm.trans hB_4
          refine lv_aload_n hx hb dX9_tries_69 rfl (lv_at hl 2 rfl) ?_
          refine va_get (D := D) (ci := 9) (v := .ref (ad 45)) (C := RX9) (T := TX9) (N := 51) hx hb hts hu9 hown hK hP 0 wm_0 rfl 45 (by decide) (hts (.fieldLink RX9 110 "GrazeBookModel" "tryPiece" "[I") (List.mem_cons_of_mem _ mw_828)) (fun _ h9 => h9) rfl dX9_tries_70 ?_
          refine lv_iload_n hx hb dX9_tries_73 rfl (lv_at hl 4 rfl) ?_
          refine lv_aload_n hx hb dX9_tries_74 rfl (lv_at hl 2 rfl) ?_
          refine va_get (D := D) (ci := 9) (v := .ref (ad 47)) (C := RX9) (T := TX9) (N := 51) hx hb hts hu9 hown hK hP 0 wm_0 rfl 47 (by decide) (hts (.fieldLink RX9 116 "GrazeBookModel" "trial" "[I") (List.mem_cons_of_mem _ mw_830)) (fun _ h9 => h9) rfl dX9_tries_75 ?_
          refine lv_iload_n hx hb dX9_tries_78 rfl (lv_at hl 5 rfl) ?_
          refine lv_iload hx hb dX9_tries_79 (lv_at hl 0 rfl) ?_
          refine lv_imul hx hb dX9_tries_81 ?_
          refine lv_iconst (v := (1 : Int32)) hx hb dX9_tries_82 (by decide) ?_
          refine lv_iadd hx hb dX9_tries_83 ?_
          refine va_iald_k (k := (((a3 * (nI k_4)) + (1 : Int32)).toNatClampNeg)) (v := (τ_4 47 (((a3 * (nI k_4)) + (1 : Int32)).toNatClampNeg))) hx hb hK hP 36 0 wm_a47 rfl rfl rfl ((pl_1 hpl hk_4).2 c_15) dX9_tries_84 ?_
          refine va_iast_k (k := (a2.toNatClampNeg)) hx hb hK hP hD hS 34 0 wm_a45 rfl rfl (ho2 c_15) dX9_tries_85 (fun H locs hP hD hS => ?_)
          rw [wm_s45] at hP hD
          exact hJ_7 (put (put τ_4 45 (a1.toNatClampNeg) (τ_4 47 ((a3 * (nI k_4)).toNatClampNeg))) 45 (a2.toNatClampNeg) (τ_4 47 (((a3 * (nI k_4)) + (1 : Int32)).toNatClampNeg))) hI_4 hf1_4 _ _ _ hB_4 hP hD hS (lv_sub hl [0, 1, 2, 3, 4, 5, 6, 7] rfl)
    exact hL_4 _ 0 (0 : Int32) τ_3 ⟨rfl, by decide⟩ hI_3 hf1_3 _ _ _ hR hP hD hS (lv_sub hl [0, 1, 2, 3, 4, 5, 6, 7] rfl)
  have hL_3 : ∀ (n k_3 : Nat) (τ_3 : St) (hk_3 : lpk (τ_3 2 0) k_3 n) (hI_3 : IR τ_3) (hf1_3 : τ_3 1 = σ 1) (H : Heap) (locs : List Loc) (ls : Array Slot), s_X9_tries_c7 a1 a2 a3 a4 a5 (iter s_X9_tries_l7 n k_3 τ_3) = R → va_P D vwCl (WM ca h ad τ_3) H → va_D A (WM ca h ad τ_3) → va_S A s.heap H locs → lv_has ls 9 [(6, .int (nI k_3)), (0, .ref h), (1, .int a1), (2, .int a2), (3, .int a3), (4, .int a4), (5, .int a5)] → W p l e ((headSpec wsX9_tries ({ frames := 4, cells := 0, slots := 0, locals := 103 })).room) s m ([.ref h, .int a1, .int a2, .int a3, .int a4, .int a5] : List Value).toArray below meth c H locs 0 0 QQ (F0 m 7 ls []) := by
    intro n
    induction n with
    | zero =>
      intro k_3 τ_3 hk_3 hI_3 hf1_3 H locs ls hR hP hD hS hl
      refine lv_iload hx hb dX9_tries_7 (lv_at hl 0 rfl) ?_
      refine lv_aload_n hx hb dX9_tries_9 rfl (lv_at hl 1 rfl) ?_
      refine va_get (D := D) (ci := 9) (v := .int (τ_3 2 0)) (C := RX9) (T := TX9) (N := 51) hx hb hts hu9 hown hK hP 0 wm_0 rfl 2 (by decide) (hts (.fieldLink RX9 127 "GrazeBookModel" "pieces" "I") (List.mem_cons_of_mem _ mw_785)) (fun _ h9 => h9) rfl dX9_tries_10 ?_
      refine lv_icmp_ge (tgt := 36) hx hb dX9_tries_13 (by decide) (fun _ => ?_) (fun c_16 => absurd (ge_end hk_3) c_16)
      exact hE_3 τ_3 hI_3 hf1_3 _ _ _ hR hP hD hS (lv_sub hl [1, 2, 3, 4, 5, 6] rfl)
    | succ n ih =>
      intro k_3 τ_3 hk_3 hI_3 hf1_3 H locs ls hR hP hD hS hl
      obtain ⟨S_3, hB_3⟩ : ∃ s9, s_X9_tries_l7 k_3 τ_3 = s9 := ⟨_, rfl⟩
      have hR : s_X9_tries_c7 a1 a2 a3 a4 a5 (iter s_X9_tries_l7 n (k_3 + 1) S_3) = R := by rw [← hB_3]; exact hR
      have hB_3 : (put τ_3 44 k_3 (τ_3 13 k_3)) = S_3 := hB_3
      refine lv_iload hx hb dX9_tries_7 (lv_at hl 0 rfl) ?_
      refine lv_aload_n hx hb dX9_tries_9 rfl (lv_at hl 1 rfl) ?_
      refine va_get (D := D) (ci := 9) (v := .int (τ_3 2 0)) (C := RX9) (T := TX9) (N := 51) hx hb hts hu9 hown hK hP 0 wm_0 rfl 2 (by decide) (hts (.fieldLink RX9 127 "GrazeBookModel" "pieces" "I") (List.mem_cons_of_mem _ mw_785)) (fun _ h9 => h9) rfl dX9_tries_10 ?_
      refine lv_icmp_ge (tgt := 36) hx hb dX9_tries_13 (by decide) (fun c_17 => absurd c_17 (ge_go hk_3)) (fun _ => ?_)
      refine lv_aload_n hx hb dX9_tries_16 rfl (lv_at hl 1 rfl) ?_
      refine va_get (D := D) (ci := 9) (v := .ref (ad 44)) (C := RX9) (T := TX9) (N := 51) hx hb hts hu9 hown hK hP 0 wm_0 rfl 44 (by decide) (hts (.fieldLink RX9 107 "GrazeBookModel" "tryGrass" "[I") (List.mem_cons_of_mem _ mw_827)) (fun _ h9 => h9) rfl dX9_tries_17 ?_
      refine lv_iload hx hb dX9_tries_20 (lv_at hl 0 rfl) ?_
      refine lv_aload_n hx hb dX9_tries_22 rfl (lv_at hl 1 rfl) ?_
      refine va_get (D := D) (ci := 9) (v := .ref (ad 13)) (C := RX9) (T := TX9) (N := 51) hx hb hts hu9 hown hK hP 0 wm_0 rfl 13 (by decide) (hts (.fieldLink RX9 13 "GrazeBookModel" "grass" "[I") (List.mem_cons_of_mem _ mw_796)) (fun _ h9 => h9) rfl dX9_tries_23 ?_
      refine lv_iload hx hb dX9_tries_26 (lv_at hl 0 rfl) ?_
      refine va_iald_k (k := k_3) (v := (τ_3 13 k_3)) hx hb hK hP 2 0 wm_a13 rfl (ix_cl hk_3) rfl (ix_loop (N := 6) hk_3 (ir_2 hI_3) (by decide) (by decide)) dX9_tries_28 ?_
      refine va_iast_k (k := k_3) hx hb hK hP hD hS 33 0 wm_a44 rfl (ix_cl hk_3) (ix_loop (N := 6) hk_3 (ir_2 hI_3) (by decide) (by decide)) dX9_tries_29 (fun H locs hP hD hS => ?_)
      rw [wm_s44] at hP hD
      refine lv_iinc (v := (nI (k_3 + 1))) (lv' := [(6, .int (nI (k_3 + 1))), (0, .ref h), (1, .int a1), (2, .int a2), (3, .int a3), (4, .int a4), (5, .int a5)]) hx hb dX9_tries_30 hl (k := 0) rfl (by rw [show Int32.ofInt 1 = 1 from by decide]; exact nI_1 _) (by decide) rfl (fun ls hl => ?_)
      refine lv_goto (tgt := 7) hx hb dX9_tries_33 (by decide) ?_
      subst hB_3
      exact ih (k_3 + 1) (put τ_3 44 k_3 (τ_3 13 k_3)) (ge_next hk_3) (ir_put44 (σ := τ_3) hI_3 ⟨(ir_13 hI_3 k_3).1, Int.le_trans (ir_13 hI_3 k_3).2.1 (ir_13 hI_3 k_3).2.2⟩) hf1_3 _ _ _ hR hP hD hS (lv_sub hl [0, 1, 2, 3, 4, 5, 6] rfl)
  exact hL_3 _ 0 (s_X9_places σ) ⟨rfl, by decide⟩ hI_2 ((fr_s_X9_places σ (f := 1) (by decide)).trans rfl) _ _ _ hR hP hD hS (lv_sub hl [0, 1, 2, 3, 4, 5, 6] rfl)

