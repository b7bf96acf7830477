def s_X9_shares_c70  : St → St := fun x9 => match x9 with
  | τ_2 => τ_2
def s_X9_shares_c112 (v5_1 : Int32) (k_2 : Nat) (τ_2 : St) : Int32 → St := fun x9 => match x9 with
  | v9_7 => (if v5_1 ≤ v9_7 then (put τ_2 43 k_2 ((τ_2 43 k_2) + (0 : Int32))) else (put τ_2 43 k_2 ((τ_2 43 k_2) + (1 : Int32))))
def s_X9_shares_l112 (a1 : Int32) (a2 : Int32) (a3 : Int32) (k_2 : Nat) (τ_2 : St) (k_7 : Nat) : Int32 → Int32 := fun x9 => match x9 with
  | v9_7 => (if (τ_2 45 k_7) = a1 then (if (0 : Int32) < (lg_cmp (((a3.toInt64) * ((s_X9_partsOfHerd τ_2 (nI k_7)).toInt64)) - ((a3.toInt64) * ((s_X9_partsOfHerd τ_2 (nI k_7)).toInt64)) / (a2.toInt64) * (a2.toInt64)) (((a3.toInt64) * ((s_X9_partsOfHerd τ_2 (nI k_2)).toInt64)) - ((a3.toInt64) * ((s_X9_partsOfHerd τ_2 (nI k_2)).toInt64)) / (a2.toInt64) * (a2.toInt64))) then (v9_7 + (1 : Int32)) else (if (lg_cmp (((a3.toInt64) * ((s_X9_partsOfHerd τ_2 (nI k_7)).toInt64)) - ((a3.toInt64) * ((s_X9_partsOfHerd τ_2 (nI k_7)).toInt64)) / (a2.toInt64) * (a2.toInt64)) (((a3.toInt64) * ((s_X9_partsOfHerd τ_2 (nI k_2)).toInt64)) - ((a3.toInt64) * ((s_X9_partsOfHerd τ_2 (nI k_2)).toInt64)) / (a2.toInt64) * (a2.toInt64))) = (0 : Int32) then (if (nI k_2) ≤ (nI k_7) then (v9_7 + (0 : Int32)) else (v9_7 + (1 : Int32))) else (v9_7 + (0 : Int32)))) else v9_7)
def s_X9_shares_l70 (a1 : Int32) (a2 : Int32) (a3 : Int32) (v5_1 : Int32) (k_2 : Nat) : St → St := fun x9 => match x9 with
  | τ_2 => (if (τ_2 45 k_2) = a1 then (s_X9_shares_c112 v5_1 k_2 τ_2 (iter (s_X9_shares_l112 a1 a2 a3 k_2 τ_2) ((τ_2 6 0).toNatClampNeg - 0) 0 (0 : Int32))) else τ_2)
def s_X9_shares_c7 (a1 : Int32) (a2 : Int32) (a3 : Int32) : (Int32 × St) → St := fun x9 => match x9 with
  | (v5_1, τ_1) => (s_X9_shares_c70 (iter (s_X9_shares_l70 a1 a2 a3 v5_1) ((τ_1 6 0).toNatClampNeg - 0) 0 τ_1))
def s_X9_shares_l7 (a1 : Int32) (a2 : Int32) (a3 : Int32) (k_1 : Nat) : (Int32 × St) → (Int32 × St) := fun x9 => match x9 with
  | (v5_1, τ_1) => (if (τ_1 45 k_1) = a1 then ((v5_1 - ((put τ_1 43 k_1 ((((a3.toInt64) * ((s_X9_partsOfHerd τ_1 (nI k_1)).toInt64)) / (a2.toInt64)).toInt32)) 43 k_1)), (put τ_1 43 k_1 ((((a3.toInt64) * ((s_X9_partsOfHerd τ_1 (nI k_1)).toInt64)) / (a2.toInt64)).toInt32))) else (v5_1, τ_1))
def s_X9_shares (σ : St) (a1 : Int32) (a2 : Int32) (a3 : Int32) : St := (s_X9_shares_c7 a1 a2 a3 (iter (s_X9_shares_l7 a1 a2 a3) ((σ 6 0).toNatClampNeg - 0) 0 (a3, σ)))
theorem fr_s_X9_shares_c70  (s : St) {f : Nat} (h43 : f ≠ 43) : (s_X9_shares_c70 s) f = s f := by
  unfold s_X9_shares_c70
  all_goals ((try dsimp only) <;> ((repeat' split) <;> (try simp only [put_fr, ne_eq, not_false_eq_true, h43])))
theorem fr_s_X9_shares_c112 (v5_1 : Int32) (k_2 : Nat) (τ_2 : St) (s : Int32) {f : Nat} (h43 : f ≠ 43) : (s_X9_shares_c112 v5_1 k_2 τ_2 s) f = τ_2 f := by
  unfold s_X9_shares_c112
  all_goals ((try dsimp only) <;> ((repeat' split) <;> (try simp only [put_fr, ne_eq, not_false_eq_true, h43, fr_s_X9_shares_c70])))
theorem fr_s_X9_shares_l70 (a1 : Int32) (a2 : Int32) (a3 : Int32) (v5_1 : Int32) (k_2 : Nat) (s : St) {f : Nat} (h43 : f ≠ 43) : (s_X9_shares_l70 a1 a2 a3 v5_1 k_2 s) f = s f := by
  unfold s_X9_shares_l70
  all_goals ((try dsimp only) <;> ((repeat' split) <;> (try simp only [put_fr, ne_eq, not_false_eq_true, h43, fr_s_X9_shares_c70, fr_s_X9_shares_c112])))
theorem fri_s_X9_shares_l70 (a1 : Int32) (a2 : Int32) (a3 : Int32) (v5_1 : Int32) (n k : Nat) (s : St) {f : Nat} (h43 : f ≠ 43) : (iter (s_X9_shares_l70 a1 a2 a3 v5_1) n k s) f = s f := iter_fr (P := (fun s => s f)) (fun k s => fr_s_X9_shares_l70 a1 a2 a3 v5_1 k s h43) n k s
theorem fr_s_X9_shares_c7 (a1 : Int32) (a2 : Int32) (a3 : Int32) (s : (Int32 × St)) {f : Nat} (h43 : f ≠ 43) : (s_X9_shares_c7 a1 a2 a3 s) f = s.2 f := by
  obtain ⟨v5_1, τ_1⟩ := s
  unfold s_X9_shares_c7
  all_goals ((try dsimp only) <;> ((repeat' split) <;> (try simp only [put_fr, ne_eq, not_false_eq_true, h43, fr_s_X9_shares_c70, fr_s_X9_shares_c112, fri_s_X9_shares_l70])))
theorem fr_s_X9_shares_l7 (a1 : Int32) (a2 : Int32) (a3 : Int32) (k_1 : Nat) (s : (Int32 × St)) {f : Nat} (h43 : f ≠ 43) : (s_X9_shares_l7 a1 a2 a3 k_1 s).2 f = s.2 f := by
  obtain ⟨v5_1, τ_1⟩ := s
  unfold s_X9_shares_l7
  all_goals ((try dsimp only) <;> ((repeat' split) <;> (try simp only [put_fr, ne_eq, not_false_eq_true, h43, fr_s_X9_shares_c70, fr_s_X9_shares_c112, fri_s_X9_shares_l70, fr_s_X9_shares_c7])))
theorem fri_s_X9_shares_l7 (a1 : Int32) (a2 : Int32) (a3 : Int32) (n k : Nat) (s : (Int32 × St)) {f : Nat} (h43 : f ≠ 43) : (iter (s_X9_shares_l7 a1 a2 a3) n k s).2 f = s.2 f := iter_fr (P := (fun s => s.2 f)) (fun k s => fr_s_X9_shares_l7 a1 a2 a3 k s h43) n k s
theorem fr_s_X9_shares (σ : St) (a1 : Int32) (a2 : Int32) (a3 : Int32) {f : Nat} (h43 : f ≠ 43) : (s_X9_shares σ a1 a2 a3 ) f = σ f := by
  unfold s_X9_shares
  all_goals ((try dsimp only) <;> ((repeat' split) <;> (try simp only [put_fr, ne_eq, not_false_eq_true, h43, fr_s_X9_shares_c70, fr_s_X9_shares_c112, fri_s_X9_shares_l70, fr_s_X9_shares_c7, fri_s_X9_shares_l7])))
set_option maxHeartbeats 1000000 in
set_option maxRecDepth 100000 in
theorem k_X9_shares (l : Launch) (D : va_G) (ca : Nat → ClassId) (h : Nat) (ad : Nat → Nat) (σ : St) (a1 : Int32) (a2 : Int32) (a3 : Int32) (sz : Nat) (hI : IR σ) (hnz : ¬ a2 = 0) (R : St) (hR : s_X9_shares σ a1 a2 a3 = R) : Met l yX9_shares wsX9_shares ({ frames := 2, cells := 0, slots := 0, locals := 41 }) (va_Pc [.ref h, .ref (ad 45), .int a1, .int a2, .int a3] (pw_pre D ca (WM ca h ad σ) sz)) (va_Qv (fun _ : Unit => True) (fun (_ : Unit) (t : State) => pw_post D ca (WM ca h ad σ) sz (WM ca h ad R) t ∧ IR R) (va_A (WM ca h ad σ) sz)) 0 0 (va_A (WM ca h ad σ) sz) := by
  refine Met.ofW (cc := cX9_shares) (maxL := 13) (ret := none) (by decide) rfl ?_
  intro p e s m args below meth c s₁ B hml hv
  obtain ⟨rfl, hsz, hP, hK, hD0⟩ := hv
  have hx := B.exec
  have hb := B.bytes
  have hr := B.returns
  have hts := atoms_spec (ws := wsX9_shares) B.pre
  have hown : s.vm.findClass RX9 = some m.cls := findClass_of_methodNamed B.named
  have hlocks := B.notSynchronized
  have hu9 : ∀ w ∈ u_ws RX9 TX9 51, w ∈ wsX9_shares := fun w h => List.mem_cons_of_mem _ (uw9 w h)
  subst hsz
  have hD := hD0.self (sz := s.heap.size)
  obtain ⟨A, hAe⟩ : ∃ A, A = va_A (WM ca h ad σ) s.heap.size := ⟨_, rfl⟩
  rw [← hAe] at hD ⊢
  have hA : ∀ q : Nat, s.heap.size ≤ q → A q := fun q h => by rw [hAe]; exact Or.inr h
  have hS : va_S A s.heap s.heap [] := va_S.rf
  have hl := lv_entry ([.ref h, .ref (ad 45), .int a1, .int a2, .int a3]) (n := 13) (Nat.le_of_ble_eq_true rfl)
  rw [lg_entry_eq]
  generalize (lg_sl ([.ref h, .ref (ad 45), .int a1, .int a2, .int a3]) ++ List.replicate (13 - (lg_sl ([.ref h, .ref (ad 45), .int a1, .int a2, .int a3])).length) Slot.unset).toArray = ls at hl ⊢
  have hl : lv_has ls 13 [(0, .ref h), (1, .ref (ad 45)), (2, .int a1), (3, .int a2), (4, .int a3)] := hl
  obtain ⟨H, hH⟩ : ∃ H, H = s.heap := ⟨_, rfl⟩
  have hP : va_P D vwCl (WM ca h ad σ) H := by rw [hH]; exact hP
  have hS : va_S A s.heap H [] := by rw [hH]; exact hS
  obtain ⟨QQ, hQ⟩ : ∃ Q9, Q9 = MQ below (va_Qv (fun _ : Unit => True) (fun (_ : Unit) (t : State) => pw_post D ca (WM ca h ad σ) s.heap.size (WM ca h ad R) t ∧ IR R) A) ([.ref h, .ref (ad 45), .int a1, .int a2, .int a3] : List Value).toArray s 0 0 A := ⟨_, rfl⟩
  rw [← hQ]
  show W _ _ _ _ _ _ _ _ _ _ s.heap _ _ _ _ _
  rw [← hH]
  have hR : (s_X9_shares_c7 a1 a2 a3 (iter (s_X9_shares_l7 a1 a2 a3) ((σ 6 0).toNatClampNeg - 0) 0 (a3, σ))) = R := hR
  refine lv_iload hx hb dX9_shares_0 (lv_at hl 4 rfl) ?_
  refine lv_istore (lv' := [(5, .int a3), (0, .ref h), (1, .ref (ad 45)), (2, .int a1), (3, .int a2), (4, .int a3)]) hx hb dX9_shares_2 hl (by decide) rfl (fun ls hl => ?_)
  refine lv_iconst (v := (0 : Int32)) hx hb dX9_shares_4 (by decide) ?_
  refine lv_istore (lv' := [(6, .int (0 : Int32)), (5, .int a3), (0, .ref h), (1, .ref (ad 45)), (2, .int a1), (3, .int a2), (4, .int a3)]) hx hb dX9_shares_5 hl (by decide) rfl (fun ls hl => ?_)
  have hE_1 : ∀ (v5_1 : Int32) (τ_1 : St) (hI_1 : IR τ_1) (H : Heap) (locs : List Loc) (ls : Array Slot), s_X9_shares_c7 a1 a2 a3 (v5_1, τ_1) = R → va_P D vwCl (WM ca h ad τ_1) H → va_D A (WM ca h ad τ_1) → va_S A s.heap H locs → lv_has ls 13 [(5, .int v5_1), (0, .ref h), (1, .ref (ad 45)), (2, .int a1), (3, .int a2), (4, .int a3)] → W p l e ((headSpec wsX9_shares ({ frames := 2, cells := 0, slots := 0, locals := 41 })).room) s m ([.ref h, .ref (ad 45), .int a1, .int a2, .int a3] : List Value).toArray below meth c H locs 0 0 QQ (F0 m 67 ls []) := by
    intro v5_1 τ_1 hI_1 H locs ls hR hP hD hS hl
    have hR : (s_X9_shares_c70 (iter (s_X9_shares_l70 a1 a2 a3 v5_1) ((τ_1 6 0).toNatClampNeg - 0) 0 τ_1)) = R := hR
    refine lv_iconst (v := (0 : Int32)) hx hb dX9_shares_67 (by decide) ?_
    refine lv_istore (lv' := [(6, .int (0 : Int32)), (5, .int v5_1), (0, .ref h), (1, .ref (ad 45)), (2, .int a1), (3, .int a2), (4, .int a3)]) hx hb dX9_shares_68 hl (by decide) rfl (fun ls hl => ?_)
    have hE_2 : ∀ (τ_2 : St) (hI_2 : IR τ_2) (H : Heap) (locs : List Loc) (ls : Array Slot), s_X9_shares_c70 τ_2 = R → va_P D vwCl (WM ca h ad τ_2) H → va_D A (WM ca h ad τ_2) → va_S A s.heap H locs → lv_has ls 13 [] → W p l e ((headSpec wsX9_shares ({ frames := 2, cells := 0, slots := 0, locals := 41 })).room) s m ([.ref h, .ref (ad 45), .int a1, .int a2, .int a3] : List Value).toArray below meth c H locs 0 0 QQ (F0 m 215 ls []) := by
      intro τ_2 hI_2 H locs ls hR hP hD hS hl
      have hR : τ_2 = R := hR
      have hI9 : IR τ_2 := hI_2
      subst hR
      rw [hQ]
      exact W.vret hx hb hr (fun t ht hW => ⟨⟨(), rfl, trivial, ⟨by rw [ht]; exact hP, va_K.moved hW.alike hK, by rw [← hAe]; exact hD⟩, hI9⟩, hS.F ht⟩) hS.2.2 dX9_shares_215
    have hL_2 : ∀ (n k_2 : Nat) (τ_2 : St) (hk_2 : lpk (τ_2 6 0) k_2 n) (hI_2 : IR τ_2) (H : Heap) (locs : List Loc) (ls : Array Slot), s_X9_shares_c70 (iter (s_X9_shares_l70 a1 a2 a3 v5_1) n k_2 τ_2) = R → va_P D vwCl (WM ca h ad τ_2) H → va_D A (WM ca h ad τ_2) → va_S A s.heap H locs → lv_has ls 13 [(6, .int (nI k_2)), (5, .int v5_1), (0, .ref h), (1, .ref (ad 45)), (2, .int a1), (3, .int a2), (4, .int a3)] → W p l e ((headSpec wsX9_shares ({ frames := 2, cells := 0, slots := 0, locals := 41 })).room) s m ([.ref h, .ref (ad 45), .int a1, .int a2, .int a3] : List Value).toArray below meth c H locs 0 0 QQ (F0 m 70 ls []) := by
      intro n
      induction n with
      | zero =>
        intro k_2 τ_2 hk_2 hI_2 H locs ls hR hP hD hS hl
        refine lv_iload hx hb dX9_shares_70 (lv_at hl 0 rfl) ?_
        refine lv_aload_n hx hb dX9_shares_72 rfl (lv_at hl 2 rfl) ?_
        refine va_get (D := D) (ci := 9) (v := .int (τ_2 6 0)) (C := RX9) (T := TX9) (N := 51) hx hb hts hu9 hown hK hP 0 wm_0 rfl 6 (by decide) (hts (.fieldLink RX9 164 "GrazeBookModel" "herds" "I") (List.mem_cons_of_mem _ mw_789)) (fun _ h9 => h9) rfl dX9_shares_73 ?_
        refine lv_icmp_ge (tgt := 215) hx hb dX9_shares_76 (by decide) (fun _ => ?_) (fun c_3 => absurd (ge_end hk_2) c_3)
        exact hE_2 τ_2 hI_2 _ _ _ hR hP hD hS (lv_sub hl [] rfl)
      | succ n ih =>
        intro k_2 τ_2 hk_2 hI_2 H locs ls hR hP hD hS hl
        obtain ⟨S_2, hB_2⟩ : ∃ s9, s_X9_shares_l70 a1 a2 a3 v5_1 k_2 τ_2 = s9 := ⟨_, rfl⟩
        have hR : s_X9_shares_c70 (iter (s_X9_shares_l70 a1 a2 a3 v5_1) n (k_2 + 1) S_2) = R := by rw [← hB_2]; exact hR
        have hB_2 : (if (τ_2 45 k_2) = a1 then (s_X9_shares_c112 v5_1 k_2 τ_2 (iter (s_X9_shares_l112 a1 a2 a3 k_2 τ_2) ((τ_2 6 0).toNatClampNeg - 0) 0 (0 : Int32))) else τ_2) = S_2 := hB_2
        refine lv_iload hx hb dX9_shares_70 (lv_at hl 0 rfl) ?_
        refine lv_aload_n hx hb dX9_shares_72 rfl (lv_at hl 2 rfl) ?_
        refine va_get (D := D) (ci := 9) (v := .int (τ_2 6 0)) (C := RX9) (T := TX9) (N := 51) hx hb hts hu9 hown hK hP 0 wm_0 rfl 6 (by decide) (hts (.fieldLink RX9 164 "GrazeBookModel" "herds" "I") (List.mem_cons_of_mem _ mw_789)) (fun _ h9 => h9) rfl dX9_shares_73 ?_
        refine lv_icmp_ge (tgt := 215) hx hb dX9_shares_76 (by decide) (fun c_4 => absurd c_4 (ge_go hk_2)) (fun _ => ?_)
        refine lv_aload_n hx hb dX9_shares_79 rfl (lv_at hl 3 rfl) ?_
        refine lv_iload hx hb dX9_shares_80 (lv_at hl 0 rfl) ?_
        refine va_iald_k (k := k_2) (v := (τ_2 45 k_2)) hx hb hK hP 34 0 wm_a45 rfl (ix_cl hk_2) rfl (ix_loop (N := 20) hk_2 (ir_6 hI_2) (by decide) (by decide)) dX9_shares_82 ?_
        refine lv_iload_n hx hb dX9_shares_83 rfl (lv_at hl 4 rfl) ?_
        refine lv_icmp_eq (tgt := 90) hx hb dX9_shares_84 (by decide) (fun c_5 => ?_) (fun c_5 => ?_)
        · have hB_2 := (if_pos c_5).symm.trans hB_2
          refine lv_iload hx hb dX9_shares_90 (lv_at hl 6 rfl) ?_
          refine lv_i2l (v := (a3.toInt64)) hx hb dX9_shares_92 rfl ?_
          refine lv_aload_n hx hb dX9_shares_93 rfl (lv_at hl 2 rfl) ?_
          refine lv_iload hx hb dX9_shares_94 (lv_at hl 0 rfl) ?_
          have hF := pw_free hD hS hA
          refine va_calli (va_runV (As := [.int (nI k_2)]) (rest := [.long (a3.toInt64)]) ⟨hx, hb, hml, hown, hts⟩ (k_X9_partsOfHerd l D ca h ad τ_2 (nI k_2) H.size hI_2 (ix_loop (N := 20) hk_2 (ir_6 hI_2) (by decide) (by decide)) _ rfl) (cwV 1 hts gX9_shares_X9_partsOfHerd rfl rfl rfl (by decide +kernel) ⟨Nat.le_of_ble_eq_true rfl, Nat.le_of_ble_eq_true rfl⟩) ⟨pw_blind, va_recv hK hP (ci := 9) (q0 := 0) rfl wm_0, pw_give hP hK hD⟩ rfl rfl hl.1 rfl (lv_room (Nat.le_of_ble_eq_true rfl)) dX9_shares_96 ⟨Nat.le_of_ble_eq_true rfl, Nat.le_of_ble_eq_true rfl⟩) hS (fun q _ h => hF q h) hF (fun r_6 u t H1 locs ht hvm hw hB hz1 hk1 hS => ?_)
          subst hw
          obtain ⟨hP, hD⟩ := pw_back hF ht hB
          clear hB hk1 hz1 hF
          generalize H1 = H at hP hS ⊢
          refine lv_i2l (v := ((s_X9_partsOfHerd τ_2 (nI k_2)).toInt64)) hx hb dX9_shares_99 rfl ?_
          refine lv_lmul hx hb dX9_shares_100 ?_
          refine lv_iload_n hx hb dX9_shares_101 rfl (lv_at hl 5 rfl) ?_
          refine lv_i2l (v := (a2.toInt64)) hx hb dX9_shares_102 rfl ?_
          refine lv_lrem hx hb dX9_shares_103 (nz64 hnz) ?_
          refine lv_lstore (lv' := [(7, .long (((a3.toInt64) * ((s_X9_partsOfHerd τ_2 (nI k_2)).toInt64)) - ((a3.toInt64) * ((s_X9_partsOfHerd τ_2 (nI k_2)).toInt64)) / (a2.toInt64) * (a2.toInt64))), (6, .int (nI k_2)), (5, .int v5_1), (0, .ref h), (1, .ref (ad 45)), (2, .int a1), (3, .int a2), (4, .int a3)]) hx hb dX9_shares_104 hl (by decide) rfl (fun ls hl => ?_)
          refine lv_iconst (v := (0 : Int32)) hx hb dX9_shares_106 (by decide) ?_
          refine lv_istore (lv' := [(9, .int (0 : Int32)), (7, .long (((a3.toInt64) * ((s_X9_partsOfHerd τ_2 (nI k_2)).toInt64)) - ((a3.toInt64) * ((s_X9_partsOfHerd τ_2 (nI k_2)).toInt64)) / (a2.toInt64) * (a2.toInt64))), (6, .int (nI k_2)), (5, .int v5_1), (0, .ref h), (1, .ref (ad 45)), (2, .int a1), (3, .int a2), (4, .int a3)]) hx hb dX9_shares_107 hl (by decide) rfl (fun ls hl => ?_)
          refine lv_iconst (v := (0 : Int32)) hx hb dX9_shares_109 (by decide) ?_
          refine lv_istore (lv' := [(10, .int (0 : Int32)), (9, .int (0 : Int32)), (7, .long (((a3.toInt64) * ((s_X9_partsOfHerd τ_2 (nI k_2)).toInt64)) - ((a3.toInt64) * ((s_X9_partsOfHerd τ_2 (nI k_2)).toInt64)) / (a2.toInt64) * (a2.toInt64))), (6, .int (nI k_2)), (5, .int v5_1), (0, .ref h), (1, .ref (ad 45)), (2, .int a1), (3, .int a2), (4, .int a3)]) hx hb dX9_shares_110 hl (by decide) rfl (fun ls hl => ?_)
          have hE_7 : ∀ (v9_7 : Int32) (H : Heap) (locs : List Loc) (ls : Array Slot), s_X9_shares_c112 v5_1 k_2 τ_2 v9_7 = S_2 → va_P D vwCl (WM ca h ad τ_2) H → va_D A (WM ca h ad τ_2) → va_S A s.heap H locs → lv_has ls 13 [(9, .int v9_7), (6, .int (nI k_2)), (5, .int v5_1), (0, .ref h), (1, .ref (ad 45)), (2, .int a1), (3, .int a2), (4, .int a3)] → W p l e ((headSpec wsX9_shares ({ frames := 2, cells := 0, slots := 0, locals := 41 })).room) s m ([.ref h, .ref (ad 45), .int a1, .int a2, .int a3] : List Value).toArray below meth c H locs 0 0 QQ (F0 m 187 ls []) := by
            intro v9_7 H locs ls hB_2 hP hD hS hl
            have hB_2 : (if v5_1 ≤ v9_7 then (put τ_2 43 k_2 ((τ_2 43 k_2) + (0 : Int32))) else (put τ_2 43 k_2 ((τ_2 43 k_2) + (1 : Int32)))) = S_2 := hB_2
            refine lv_aload_n hx hb dX9_shares_187 rfl (lv_at hl 3 rfl) ?_
            refine va_get (D := D) (ci := 9) (v := .ref (ad 43)) (C := RX9) (T := TX9) (N := 51) hx hb hts hu9 hown hK hP 0 wm_0 rfl 43 (by decide) (hts (.fieldLink RX9 104 "GrazeBookModel" "hunger" "[I") (List.mem_cons_of_mem _ mw_826)) (fun _ h9 => h9) rfl dX9_shares_188 ?_
            refine lv_iload hx hb dX9_shares_191 (lv_at hl 1 rfl) ?_
            refine lv_dup2_11 hx hb dX9_shares_193 rfl rfl ?_
            refine va_iald_k (k := k_2) (v := (τ_2 43 k_2)) hx hb hK hP 32 0 wm_a43 rfl (ix_cl hk_2) rfl (ix_loop (N := 20) hk_2 (ir_6 hI_2) (by decide) (by decide)) dX9_shares_194 ?_
            refine lv_iload hx hb dX9_shares_195 (lv_at hl 0 rfl) ?_
            refine lv_iload hx hb dX9_shares_197 (lv_at hl 2 rfl) ?_
            refine lv_icmp_ge (tgt := 206) hx hb dX9_shares_199 (by decide) (fun c_8 => ?_) (fun c_8 => ?_)
            · have hB_2 := (if_pos c_8).symm.trans hB_2
              refine lv_iconst (v := (0 : Int32)) hx hb dX9_shares_206 (by decide) ?_
              refine lv_iadd hx hb dX9_shares_207 ?_
              refine va_iast_k (k := k_2) hx hb hK hP hD hS 32 0 wm_a43 rfl (ix_cl hk_2) (ix_loop (N := 20) hk_2 (ir_6 hI_2) (by decide) (by decide)) dX9_shares_208 (fun H locs hP hD hS => ?_)
              rw [wm_s43] at hP hD
              refine lv_iinc (v := (nI (k_2 + 1))) (lv' := [(6, .int (nI (k_2 + 1))), (9, .int v9_7), (5, .int v5_1), (0, .ref h), (1, .ref (ad 45)), (2, .int a1), (3, .int a2), (4, .int a3)]) hx hb dX9_shares_209 hl (k := 1) rfl (by rw [show Int32.ofInt 1 = 1 from by decide]; exact nI_1 _) (by decide) rfl (fun ls hl => ?_)
              refine lv_goto (tgt := 70) hx hb dX9_shares_212 (by decide) ?_
              subst hB_2
              exact ih (k_2 + 1) (put τ_2 43 k_2 ((τ_2 43 k_2) + (0 : Int32))) (ge_next hk_2) hI_2 _ _ _ hR hP hD hS (lv_sub hl [0, 2, 3, 4, 5, 6, 7] rfl)
            · have hB_2 := (if_neg c_8).symm.trans hB_2
              refine lv_iconst (v := (1 : Int32)) hx hb dX9_shares_202 (by decide) ?_
              refine lv_goto (tgt := 207) hx hb dX9_shares_203 (by decide) ?_
              refine lv_iadd hx hb dX9_shares_207 ?_
              refine va_iast_k (k := k_2) hx hb hK hP hD hS 32 0 wm_a43 rfl (ix_cl hk_2) (ix_loop (N := 20) hk_2 (ir_6 hI_2) (by decide) (by decide)) dX9_shares_208 (fun H locs hP hD hS => ?_)
              rw [wm_s43] at hP hD
              refine lv_iinc (v := (nI (k_2 + 1))) (lv' := [(6, .int (nI (k_2 + 1))), (9, .int v9_7), (5, .int v5_1), (0, .ref h), (1, .ref (ad 45)), (2, .int a1), (3, .int a2), (4, .int a3)]) hx hb dX9_shares_209 hl (k := 1) rfl (by rw [show Int32.ofInt 1 = 1 from by decide]; exact nI_1 _) (by decide) rfl (fun ls hl => ?_)
              refine lv_goto (tgt := 70) hx hb dX9_shares_212 (by decide) ?_
              subst hB_2
              exact ih (k_2 + 1) (put τ_2 43 k_2 ((τ_2 43 k_2) + (1 : Int32))) (ge_next hk_2) hI_2 _ _ _ hR hP hD hS (lv_sub hl [0, 2, 3, 4, 5, 6, 7] rfl)
          have hL_7 : ∀ (n k_7 : Nat) (v9_7 : Int32) (hk_7 : lpk (τ_2 6 0) k_7 n) (H : Heap) (locs : List Loc) (ls : Array Slot), s_X9_shares_c112 v5_1 k_2 τ_2 (iter (s_X9_shares_l112 a1 a2 a3 k_2 τ_2) n k_7 v9_7) = S_2 → va_P D vwCl (WM ca h ad τ_2) H → va_D A (WM ca h ad τ_2) → va_S A s.heap H locs → lv_has ls 13 [(10, .int (nI k_7)), (9, .int v9_7), (7, .long (((a3.toInt64) * ((s_X9_partsOfHerd τ_2 (nI k_2)).toInt64)) - ((a3.toInt64) * ((s_X9_partsOfHerd τ_2 (nI k_2)).toInt64)) / (a2.toInt64) * (a2.toInt64))), (6, .int (nI k_2)), (5, .int v5_1), (0, .ref h), (1, .ref (ad 45)), (2, .int a1), (3, .int a2), (4, .int a3)] → W p l e ((headSpec wsX9_shares ({ frames := 2, cells := 0, slots := 0, locals := 41 })).room) s m ([.ref h, .ref (ad 45), .int a1, .int a2, .int a3] : List Value).toArray below meth c H locs 0 0 QQ (F0 m 112 ls []) := by
            intro n
            induction n with
            | zero =>
              intro k_7 v9_7 hk_7 H locs ls hB_2 hP hD hS hl
              refine lv_iload hx hb dX9_shares_112 (lv_at hl 0 rfl) ?_
              refine lv_aload_n hx hb dX9_shares_114 rfl (lv_at hl 5 rfl) ?_
              refine va_get (D := D) (ci := 9) (v := .int (τ_2 6 0)) (C := RX9) (T := TX9) (N := 51) hx hb hts hu9 hown hK hP 0 wm_0 rfl 6 (by decide) (hts (.fieldLink RX9 164 "GrazeBookModel" "herds" "I") (List.mem_cons_of_mem _ mw_789)) (fun _ h9 => h9) rfl dX9_shares_115 ?_
              refine lv_icmp_ge (tgt := 187) hx hb dX9_shares_118 (by decide) (fun _ => ?_) (fun c_9 => absurd (ge_end hk_7) c_9)
              exact hE_7 v9_7 _ _ _ hB_2 hP hD hS (lv_sub hl [1, 3, 4, 5, 6, 7, 8, 9] rfl)
            | succ n ih =>
              intro k_7 v9_7 hk_7 H locs ls hB_2 hP hD hS hl
              obtain ⟨S_7, hB_7⟩ : ∃ s9, s_X9_shares_l112 a1 a2 a3 k_2 τ_2 k_7 v9_7 = s9 := ⟨_, rfl⟩
              have hB_2 : s_X9_shares_c112 v5_1 k_2 τ_2 (iter (s_X9_shares_l112 a1 a2 a3 k_2 τ_2) n (k_7 + 1) S_7) = S_2 := by rw [← hB_7]; exact hB_2
              have hB_7 : (if (τ_2 45 k_7) = a1 then (if (0 : Int32) < (lg_cmp (((a3.toInt64) * ((s_X9_partsOfHerd τ_2 (nI k_7)).toInt64)) - ((a3.toInt64) * ((s_X9_partsOfHerd τ_2 (nI k_7)).toInt64)) / (a2.toInt64) * (a2.toInt64)) (((a3.toInt64) * ((s_X9_partsOfHerd τ_2 (nI k_2)).toInt64)) - ((a3.toInt64) * ((s_X9_partsOfHerd τ_2 (nI k_2)).toInt64)) / (a2.toInt64) * (a2.toInt64))) then (v9_7 + (1 : Int32)) else (if (lg_cmp (((a3.toInt64) * ((s_X9_partsOfHerd τ_2 (nI k_7)).toInt64)) - ((a3.toInt64) * ((s_X9_partsOfHerd τ_2 (nI k_7)).toInt64)) / (a2.toInt64) * (a2.toInt64)) (((a3.toInt64) * ((s_X9_partsOfHerd τ_2 (nI k_2)).toInt64)) - ((a3.toInt64) * ((s_X9_partsOfHerd τ_2 (nI k_2)).toInt64)) / (a2.toInt64) * (a2.toInt64))) = (0 : Int32) then (if (nI k_2) ≤ (nI k_7) then (v9_7 + (0 : Int32)) else (v9_7 + (1 : Int32))) else (v9_7 + (0 : Int32)))) else v9_7) = S_7 := hB_7
              refine lv_iload hx hb dX9_shares_112 (lv_at hl 0 rfl) ?_
              refine lv_aload_n hx hb dX9_shares_114 rfl (lv_at hl 5 rfl) ?_
              refine va_get (D := D) (ci := 9) (v := .int (τ_2 6 0)) (C := RX9) (T := TX9) (N := 51) hx hb hts hu9 hown hK hP 0 wm_0 rfl 6 (by decide) (hts (.fieldLink RX9 164 "GrazeBookModel" "herds" "I") (List.mem_cons_of_mem _ mw_789)) (fun _ h9 => h9) rfl dX9_shares_115 ?_
              refine lv_icmp_ge (tgt := 187) hx hb dX9_shares_118 (by decide) (fun c_10 => absurd c_10 (ge_go hk_7)) (fun _ => ?_)
              refine lv_aload_n hx hb dX9_shares_121 rfl (lv_at hl 6 rfl) ?_
              refine lv_iload hx hb dX9_shares_122 (lv_at hl 0 rfl) ?_
              refine va_iald_k (k := k_7) (v := (τ_2 45 k_7)) hx hb hK hP 34 0 wm_a45 rfl (ix_cl hk_7) rfl (ix_loop (N := 20) hk_7 (ir_6 hI_2) (by decide) (by decide)) dX9_shares_124 ?_
              refine lv_iload_n hx hb dX9_shares_125 rfl (lv_at hl 7 rfl) ?_
              refine lv_icmp_eq (tgt := 132) hx hb dX9_shares_126 (by decide) (fun c_11 => ?_) (fun c_11 => ?_)
              · have hB_7 := (if_pos c_11).symm.trans hB_7
                refine lv_iload hx hb dX9_shares_132 (lv_at hl 9 rfl) ?_
                refine lv_i2l (v := (a3.toInt64)) hx hb dX9_shares_134 rfl ?_
                refine lv_aload_n hx hb dX9_shares_135 rfl (lv_at hl 5 rfl) ?_
                refine lv_iload hx hb dX9_shares_136 (lv_at hl 0 rfl) ?_
                have hF := pw_free hD hS hA
                refine va_calli (va_runV (As := [.int (nI k_7)]) (rest := [.long (a3.toInt64)]) ⟨hx, hb, hml, hown, hts⟩ (k_X9_partsOfHerd l D ca h ad τ_2 (nI k_7) H.size hI_2 (ix_loop (N := 20) hk_7 (ir_6 hI_2) (by decide) (by decide)) _ rfl) (cwV 1 hts gX9_shares_X9_partsOfHerd rfl rfl rfl (by decide +kernel) ⟨Nat.le_of_ble_eq_true rfl, Nat.le_of_ble_eq_true rfl⟩) ⟨pw_blind, va_recv hK hP (ci := 9) (q0 := 0) rfl wm_0, pw_give hP hK hD⟩ rfl rfl hl.1 rfl (lv_room (Nat.le_of_ble_eq_true rfl)) dX9_shares_138 ⟨Nat.le_of_ble_eq_true rfl, Nat.le_of_ble_eq_true rfl⟩) hS (fun q _ h => hF q h) hF (fun r_12 u t H1 locs ht hvm hw hB hz1 hk1 hS => ?_)
                subst hw
                obtain ⟨hP, hD⟩ := pw_back hF ht hB
                clear hB hk1 hz1 hF
                generalize H1 = H at hP hS ⊢
                refine lv_i2l (v := ((s_X9_partsOfHerd τ_2 (nI k_7)).toInt64)) hx hb dX9_shares_141 rfl ?_
                refine lv_lmul hx hb dX9_shares_142 ?_
                refine lv_iload_n hx hb dX9_shares_143 rfl (lv_at hl 8 rfl) ?_
                refine lv_i2l (v := (a2.toInt64)) hx hb dX9_shares_144 rfl ?_
                refine lv_lrem hx hb dX9_shares_145 (nz64 hnz) ?_
                refine lv_lstore (lv' := [(11, .long (((a3.toInt64) * ((s_X9_partsOfHerd τ_2 (nI k_7)).toInt64)) - ((a3.toInt64) * ((s_X9_partsOfHerd τ_2 (nI k_7)).toInt64)) / (a2.toInt64) * (a2.toInt64))), (10, .int (nI k_7)), (9, .int v9_7), (7, .long (((a3.toInt64) * ((s_X9_partsOfHerd τ_2 (nI k_2)).toInt64)) - ((a3.toInt64) * ((s_X9_partsOfHerd τ_2 (nI k_2)).toInt64)) / (a2.toInt64) * (a2.toInt64))), (6, .int (nI k_2)), (5, .int v5_1), (0, .ref h), (1, .ref (ad 45)), (2, .int a1), (3, .int a2), (4, .int a3)]) hx hb dX9_shares_146 hl (by decide) rfl (fun ls hl => ?_)
                refine lv_iload hx hb dX9_shares_148 (lv_at hl 2 rfl) ?_
                refine lv_lload hx hb dX9_shares_150 (lv_at hl 0 rfl) ?_
                refine lv_lload hx hb dX9_shares_152 (lv_at hl 3 rfl) ?_
                refine W.lcmp hx hb dX9_shares_154 ?_
                refine lv_if_gt (tgt := 173) hx hb dX9_shares_155 (by decide) (fun c_13 => ?_) (fun c_13 => ?_)
                · have hB_7 := (if_pos c_13).symm.trans hB_7
                  refine lv_iconst (v := (1 : Int32)) hx hb dX9_shares_173 (by decide) ?_
                  refine lv_goto (tgt := 178) hx hb dX9_shares_174 (by decide) ?_
                  refine lv_iadd hx hb dX9_shares_178 ?_
                  refine lv_istore (lv' := [(9, .int (v9_7 + (1 : Int32))), (11, .long (((a3.toInt64) * ((s_X9_partsOfHerd τ_2 (nI k_7)).toInt64)) - ((a3.toInt64) * ((s_X9_partsOfHerd τ_2 (nI k_7)).toInt64)) / (a2.toInt64) * (a2.toInt64))), (10, .int (nI k_7)), (7, .long (((a3.toInt64) * ((s_X9_partsOfHerd τ_2 (nI k_2)).toInt64)) - ((a3.toInt64) * ((s_X9_partsOfHerd τ_2 (nI k_2)).toInt64)) / (a2.toInt64) * (a2.toInt64))), (6, .int (nI k_2)), (5, .int v5_1), (0, .ref h), (1, .ref (ad 45)), (2, .int a1), (3, .int a2), (4, .int a3)]) hx hb dX9_shares_179 hl (by decide) rfl (fun ls hl => ?_)
                  refine lv_iinc (v := (nI (k_7 + 1))) (lv' := [(10, .int (nI (k_7 + 1))), (9, .int (v9_7 + (1 : Int32))), (11, .long (((a3.toInt64) * ((s_X9_partsOfHerd τ_2 (nI k_7)).toInt64)) - ((a3.toInt64) * ((s_X9_partsOfHerd τ_2 (nI k_7)).toInt64)) / (a2.toInt64) * (a2.toInt64))), (7, .long (((a3.toInt64) * ((s_X9_partsOfHerd τ_2 (nI k_2)).toInt64)) - ((a3.toInt64) * ((s_X9_partsOfHerd τ_2 (nI k_2)).toInt64)) / (a2.toInt64) * (a2.toInt64))), (6, .int (nI k_2)), (5, .int v5_1), (0, .ref h), (1, .ref (ad 45)), (2, .int a1), (3, .int a2), (4, .int a3)]) hx hb dX9_shares_181 hl (k := 2) rfl (by rw [show Int32.ofInt 1 = 1 from by decide]; exact nI_1 _) (by decide) rfl (fun ls hl => ?_)
                  refine lv_goto (tgt := 112) hx hb dX9_shares_184 (by decide) ?_
                  subst hB_7
                  exact ih (k_7 + 1) (v9_7 + (1 : Int32)) (ge_next hk_7)  _ _ _ hB_2 hP hD hS (lv_sub hl [0, 1, 3, 4, 5, 6, 7, 8, 9, 10] rfl)
                · have hB_7 := (if_neg c_13).symm.trans hB_7
                  refine lv_lload hx hb dX9_shares_158 (lv_at hl 0 rfl) ?_
                  refine lv_lload hx hb dX9_shares_160 (lv_at hl 3 rfl) ?_
                  refine W.lcmp hx hb dX9_shares_162 ?_
                  refine lv_if_ne (tgt := 177) hx hb dX9_shares_163 (by decide) (fun c_14 => ?_) (fun c_14 => ?_)
                  · have hB_7 := (if_neg c_14).symm.trans hB_7
                    refine lv_iconst (v := (0 : Int32)) hx hb dX9_shares_177 (by decide) ?_
                    refine lv_iadd hx hb dX9_shares_178 ?_
                    refine lv_istore (lv' := [(9, .int (v9_7 + (0 : Int32))), (11, .long (((a3.toInt64) * ((s_X9_partsOfHerd τ_2 (nI k_7)).toInt64)) - ((a3.toInt64) * ((s_X9_partsOfHerd τ_2 (nI k_7)).toInt64)) / (a2.toInt64) * (a2.toInt64))), (10, .int (nI k_7)), (7, .long (((a3.toInt64) * ((s_X9_partsOfHerd τ_2 (nI k_2)).toInt64)) - ((a3.toInt64) * ((s_X9_partsOfHerd τ_2 (nI k_2)).toInt64)) / (a2.toInt64) * (a2.toInt64))), (6, .int (nI k_2)), (5, .int v5_1), (0, .ref h), (1, .ref (ad 45)), (2, .int a1), (3, .int a2), (4, .int a3)]) hx hb dX9_shares_179 hl (by decide) rfl (fun ls hl => ?_)
                    refine lv_iinc (v := (nI (k_7 + 1))) (lv' := [(10, .int (nI (k_7 + 1))), (9, .int (v9_7 + (0 : Int32))), (11, .long (((a3.toInt64) * ((s_X9_partsOfHerd τ_2 (nI k_7)).toInt64)) - ((a3.toInt64) * ((s_X9_partsOfHerd τ_2 (nI k_7)).toInt64)) / (a2.toInt64) * (a2.toInt64))), (7, .long (((a3.toInt64) * ((s_X9_partsOfHerd τ_2 (nI k_2)).toInt64)) - ((a3.toInt64) * ((s_X9_partsOfHerd τ_2 (nI k_2)).toInt64)) / (a2.toInt64) * (a2.toInt64))), (6, .int (nI k_2)), (5, .int v5_1), (0, .ref h), (1, .ref (ad 45)), (2, .int a1), (3, .int a2), (4, .int a3)]) hx hb dX9_shares_181 hl (k := 2) rfl (by rw [show Int32.ofInt 1 = 1 from by decide]; exact nI_1 _) (by decide) rfl (fun ls hl => ?_)
                    refine lv_goto (tgt := 112) hx hb dX9_shares_184 (by decide) ?_
                    subst hB_7
                    exact ih (k_7 + 1) (v9_7 + (0 : Int32)) (ge_next hk_7)  _ _ _ hB_2 hP hD hS (lv_sub hl [0, 1, 3, 4, 5, 6, 7, 8, 9, 10] rfl)
                  · have hB_7 := (if_pos c_14).symm.trans hB_7
                    refine lv_iload hx hb dX9_shares_166 (lv_at hl 1 rfl) ?_
                    refine lv_iload hx hb dX9_shares_168 (lv_at hl 4 rfl) ?_
                    refine lv_icmp_ge (tgt := 177) hx hb dX9_shares_170 (by decide) (fun c_15 => ?_) (fun c_15 => ?_)
                    · have hB_7 := (if_pos c_15).symm.trans hB_7
                      refine lv_iconst (v := (0 : Int32)) hx hb dX9_shares_177 (by decide) ?_
                      refine lv_iadd hx hb dX9_shares_178 ?_
                      refine lv_istore (lv' := [(9, .int (v9_7 + (0 : Int32))), (11, .long (((a3.toInt64) * ((s_X9_partsOfHerd τ_2 (nI k_7)).toInt64)) - ((a3.toInt64) * ((s_X9_partsOfHerd τ_2 (nI k_7)).toInt64)) / (a2.toInt64) * (a2.toInt64))), (10, .int (nI k_7)), (7, .long (((a3.toInt64) * ((s_X9_partsOfHerd τ_2 (nI k_2)).toInt64)) - ((a3.toInt64) * ((s_X9_partsOfHerd τ_2 (nI k_2)).toInt64)) / (a2.toInt64) * (a2.toInt64))), (6, .int (nI k_2)), (5, .int v5_1), (0, .ref h), (1, .ref (ad 45)), (2, .int a1), (3, .int a2), (4, .int a3)]) hx hb dX9_shares_179 hl (by decide) rfl (fun ls hl => ?_)
                      refine lv_iinc (v := (nI (k_7 + 1))) (lv' := [(10, .int (nI (k_7 + 1))), (9, .int (v9_7 + (0 : Int32))), (11, .long (((a3.toInt64) * ((s_X9_partsOfHerd τ_2 (nI k_7)).toInt64)) - ((a3.toInt64) * ((s_X9_partsOfHerd τ_2 (nI k_7)).toInt64)) / (a2.toInt64) * (a2.toInt64))), (7, .long (((a3.toInt64) * ((s_X9_partsOfHerd τ_2 (nI k_2)).toInt64)) - ((a3.toInt64) * ((s_X9_partsOfHerd τ_2 (nI k_2)).toInt64)) / (a2.toInt64) * (a2.toInt64))), (6, .int (nI k_2)), (5, .int v5_1), (0, .ref h), (1, .ref (ad 45)), (2, .int a1), (3, .int a2), (4, .int a3)]) hx hb dX9_shares_181 hl (k := 2) rfl (by rw [show Int32.ofInt 1 = 1 from by decide]; exact nI_1 _) (by decide) rfl (fun ls hl => ?_)
                      refine lv_goto (tgt := 112) hx hb dX9_shares_184 (by decide) ?_
                      subst hB_7
                      exact ih (k_7 + 1) (v9_7 + (0 : Int32)) (ge_next hk_7)  _ _ _ hB_2 hP hD hS (lv_sub hl [0, 1, 3, 4, 5, 6, 7, 8, 9, 10] rfl)
                    · have hB_7 := (if_neg c_15).symm.trans hB_7
                      refine lv_iconst (v := (1 : Int32)) hx hb dX9_shares_173 (by decide) ?_
                      refine lv_goto (tgt := 178) hx hb dX9_shares_174 (by decide) ?_
                      refine lv_iadd hx hb dX9_shares_178 ?_
                      refine lv_istore (lv' := [(9, .int (v9_7 + (1 : Int32))), (11, .long (((a3.toInt64) * ((s_X9_partsOfHerd τ_2 (nI k_7)).toInt64)) - ((a3.toInt64) * ((s_X9_partsOfHerd τ_2 (nI k_7)).toInt64)) / (a2.toInt64) * (a2.toInt64))), (10, .int (nI k_7)), (7, .long (((a3.toInt64) * ((s_X9_partsOfHerd τ_2 (nI k_2)).toInt64)) - ((a3.toInt64) * ((s_X9_partsOfHerd τ_2 (nI k_2)).toInt64)) / (a2.toInt64) * (a2.toInt64))), (6, .int (nI k_2)), (5, .int v5_1), (0, .ref h), (1, .ref (ad 45)), (2, .int a1), (3, .int a2), (4, .int a3)]) hx hb dX9_shares_179 hl (by decide) rfl (fun ls hl => ?_)
                      refine lv_iinc (v := (nI (k_7 + 1))) (lv' := [(10, .int (nI (k_7 + 1))), (9, .int (v9_7 + (1 : Int32))), (11, .long (((a3.toInt64) * ((s_X9_partsOfHerd τ_2 (nI k_7)).toInt64)) - ((a3.toInt64) * ((s_X9_partsOfHerd τ_2 (nI k_7)).toInt64)) / (a2.toInt64) * (a2.toInt64))), (7, .long (((a3.toInt64) * ((s_X9_partsOfHerd τ_2 (nI k_2)).toInt64)) - ((a3.toInt64) * ((s_X9_partsOfHerd τ_2 (nI k_2)).toInt64)) / (a2.toInt64) * (a2.toInt64))), (6, .int (nI k_2)), (5, .int v5_1), (0, .ref h), (1, .ref (ad 45)), (2, .int a1), (3, .int a2), (4, .int a3)]) hx hb dX9_shares_181 hl (k := 2) rfl (by rw [show Int32.ofInt 1 = 1 from by decide]; exact nI_1 _) (by decide) rfl (fun ls hl => ?_)
                      refine lv_goto (tgt := 112) hx hb dX9_shares_184 (by decide) ?_
                      subst hB_7
                      exact ih (k_7 + 1) (v9_7 + (1 : Int32)) (ge_next hk_7)  _ _ _ hB_2 hP hD hS (lv_sub hl [0, 1, 3, 4, 5, 6, 7, 8, 9, 10] rfl)
              · have hB_7 := (if_neg c_11).symm.trans hB_7
                refine lv_goto (tgt := 181) hx hb dX9_shares_129 (by decide) ?_
                refine lv_iinc (v := (nI (k_7 + 1))) (lv' := [(10, .int (nI (k_7 + 1))), (9, .int v9_7), (7, .long (((a3.toInt64) * ((s_X9_partsOfHerd τ_2 (nI k_2)).toInt64)) - ((a3.toInt64) * ((s_X9_partsOfHerd τ_2 (nI k_2)).toInt64)) / (a2.toInt64) * (a2.toInt64))), (6, .int (nI k_2)), (5, .int v5_1), (0, .ref h), (1, .ref (ad 45)), (2, .int a1), (3, .int a2), (4, .int a3)]) hx hb dX9_shares_181 hl (k := 0) rfl (by rw [show Int32.ofInt 1 = 1 from by decide]; exact nI_1 _) (by decide) rfl (fun ls hl => ?_)
                refine lv_goto (tgt := 112) hx hb dX9_shares_184 (by decide) ?_
                subst hB_7
                exact ih (k_7 + 1) v9_7 (ge_next hk_7)  _ _ _ hB_2 hP hD hS (lv_sub hl [0, 1, 2, 3, 4, 5, 6, 7, 8, 9] rfl)
          exact hL_7 _ 0 (0 : Int32) ⟨rfl, by decide⟩  _ _ _ hB_2 hP hD hS (lv_sub hl [0, 1, 2, 3, 4, 5, 6, 7, 8, 9] rfl)
        · have hB_2 := (if_neg c_5).symm.trans hB_2
          refine lv_goto (tgt := 209) hx hb dX9_shares_87 (by decide) ?_
          refine lv_iinc (v := (nI (k_2 + 1))) (lv' := [(6, .int (nI (k_2 + 1))), (5, .int v5_1), (0, .ref h), (1, .ref (ad 45)), (2, .int a1), (3, .int a2), (4, .int a3)]) hx hb dX9_shares_209 hl (k := 0) rfl (by rw [show Int32.ofInt 1 = 1 from by decide]; exact nI_1 _) (by decide) rfl (fun ls hl => ?_)
          refine lv_goto (tgt := 70) hx hb dX9_shares_212 (by decide) ?_
          subst hB_2
          exact ih (k_2 + 1) τ_2 (ge_next hk_2) hI_2 _ _ _ hR hP hD hS (lv_sub hl [0, 1, 2, 3, 4, 5, 6] rfl)
    exact hL_2 _ 0 τ_1 ⟨rfl, by decide⟩ hI_1 _ _ _ hR hP hD hS (lv_sub hl [0, 1, 2, 3, 4, 5, 6] rfl)
  have hL_1 : ∀ (n k_1 : Nat) (v5_1 : Int32) (τ_1 : St) (hk_1 : lpk (τ_1 6 0) k_1 n) (hI_1 : IR τ_1) (H : Heap) (locs : List Loc) (ls : Array Slot), s_X9_shares_c7 a1 a2 a3 (iter (s_X9_shares_l7 a1 a2 a3) n k_1 (v5_1, τ_1)) = R → va_P D vwCl (WM ca h ad τ_1) H → va_D A (WM ca h ad τ_1) → va_S A s.heap H locs → lv_has ls 13 [(6, .int (nI k_1)), (5, .int v5_1), (0, .ref h), (1, .ref (ad 45)), (2, .int a1), (3, .int a2), (4, .int a3)] → W p l e ((headSpec wsX9_shares ({ frames := 2, cells := 0, slots := 0, locals := 41 })).room) s m ([.ref h, .ref (ad 45), .int a1, .int a2, .int a3] : List Value).toArray below meth c H locs 0 0 QQ (F0 m 7 ls []) := by
    intro n
    induction n with
    | zero =>
      intro k_1 v5_1 τ_1 hk_1 hI_1 H locs ls hR hP hD hS hl
      refine lv_iload hx hb dX9_shares_7 (lv_at hl 0 rfl) ?_
      refine lv_aload_n hx hb dX9_shares_9 rfl (lv_at hl 2 rfl) ?_
      refine va_get (D := D) (ci := 9) (v := .int (τ_1 6 0)) (C := RX9) (T := TX9) (N := 51) hx hb hts hu9 hown hK hP 0 wm_0 rfl 6 (by decide) (hts (.fieldLink RX9 164 "GrazeBookModel" "herds" "I") (List.mem_cons_of_mem _ mw_789)) (fun _ h9 => h9) rfl dX9_shares_10 ?_
      refine lv_icmp_ge (tgt := 67) hx hb dX9_shares_13 (by decide) (fun _ => ?_) (fun c_16 => absurd (ge_end hk_1) c_16)
      exact hE_1 v5_1 τ_1 hI_1 _ _ _ hR hP hD hS (lv_sub hl [1, 2, 3, 4, 5, 6] rfl)
    | succ n ih =>
      intro k_1 v5_1 τ_1 hk_1 hI_1 H locs ls hR hP hD hS hl
      obtain ⟨S_1, hB_1⟩ : ∃ s9, s_X9_shares_l7 a1 a2 a3 k_1 (v5_1, τ_1) = s9 := ⟨_, rfl⟩
      have hR : s_X9_shares_c7 a1 a2 a3 (iter (s_X9_shares_l7 a1 a2 a3) n (k_1 + 1) S_1) = R := by rw [← hB_1]; exact hR
      have hB_1 : (if (τ_1 45 k_1) = a1 then ((v5_1 - ((put τ_1 43 k_1 ((((a3.toInt64) * ((s_X9_partsOfHerd τ_1 (nI k_1)).toInt64)) / (a2.toInt64)).toInt32)) 43 k_1)), (put τ_1 43 k_1 ((((a3.toInt64) * ((s_X9_partsOfHerd τ_1 (nI k_1)).toInt64)) / (a2.toInt64)).toInt32))) else (v5_1, τ_1)) = S_1 := hB_1
      refine lv_iload hx hb dX9_shares_7 (lv_at hl 0 rfl) ?_
      refine lv_aload_n hx hb dX9_shares_9 rfl (lv_at hl 2 rfl) ?_
      refine va_get (D := D) (ci := 9) (v := .int (τ_1 6 0)) (C := RX9) (T := TX9) (N := 51) hx hb hts hu9 hown hK hP 0 wm_0 rfl 6 (by decide) (hts (.fieldLink RX9 164 "GrazeBookModel" "herds" "I") (List.mem_cons_of_mem _ mw_789)) (fun _ h9 => h9) rfl dX9_shares_10 ?_
      refine lv_icmp_ge (tgt := 67) hx hb dX9_shares_13 (by decide) (fun c_17 => absurd c_17 (ge_go hk_1)) (fun _ => ?_)
      refine lv_aload_n hx hb dX9_shares_16 rfl (lv_at hl 3 rfl) ?_
      refine lv_iload hx hb dX9_shares_17 (lv_at hl 0 rfl) ?_
      refine va_iald_k (k := k_1) (v := (τ_1 45 k_1)) hx hb hK hP 34 0 wm_a45 rfl (ix_cl hk_1) rfl (ix_loop (N := 20) hk_1 (ir_6 hI_1) (by decide) (by decide)) dX9_shares_19 ?_
      refine lv_iload_n hx hb dX9_shares_20 rfl (lv_at hl 4 rfl) ?_
      refine lv_icmp_eq (tgt := 27) hx hb dX9_shares_21 (by decide) (fun c_18 => ?_) (fun c_18 => ?_)
      · have hB_1 := (if_pos c_18).symm.trans hB_1
        refine lv_aload_n hx hb dX9_shares_27 rfl (lv_at hl 2 rfl) ?_
        refine va_get (D := D) (ci := 9) (v := .ref (ad 43)) (C := RX9) (T := TX9) (N := 51) hx hb hts hu9 hown hK hP 0 wm_0 rfl 43 (by decide) (hts (.fieldLink RX9 104 "GrazeBookModel" "hunger" "[I") (List.mem_cons_of_mem _ mw_826)) (fun _ h9 => h9) rfl dX9_shares_28 ?_
        refine lv_iload hx hb dX9_shares_31 (lv_at hl 0 rfl) ?_
        refine lv_iload hx hb dX9_shares_33 (lv_at hl 6 rfl) ?_
        refine lv_i2l (v := (a3.toInt64)) hx hb dX9_shares_35 rfl ?_
        refine lv_aload_n hx hb dX9_shares_36 rfl (lv_at hl 2 rfl) ?_
        refine lv_iload hx hb dX9_shares_37 (lv_at hl 0 rfl) ?_
        have hF := pw_free hD hS hA
        refine va_calli (va_runV (As := [.int (nI k_1)]) (rest := [.long (a3.toInt64), .int (nI k_1), .ref (ad 43)]) ⟨hx, hb, hml, hown, hts⟩ (k_X9_partsOfHerd l D ca h ad τ_1 (nI k_1) H.size hI_1 (ix_loop (N := 20) hk_1 (ir_6 hI_1) (by decide) (by decide)) _ rfl) (cwV 1 hts gX9_shares_X9_partsOfHerd rfl rfl rfl (by decide +kernel) ⟨Nat.le_of_ble_eq_true rfl, Nat.le_of_ble_eq_true rfl⟩) ⟨pw_blind, va_recv hK hP (ci := 9) (q0 := 0) rfl wm_0, pw_give hP hK hD⟩ rfl rfl hl.1 rfl (lv_room (Nat.le_of_ble_eq_true rfl)) dX9_shares_39 ⟨Nat.le_of_ble_eq_true rfl, Nat.le_of_ble_eq_true rfl⟩) hS (fun q _ h => hF q h) hF (fun r_19 u t H1 locs ht hvm hw hB hz1 hk1 hS => ?_)
        subst hw
        obtain ⟨hP, hD⟩ := pw_back hF ht hB
        clear hB hk1 hz1 hF
        generalize H1 = H at hP hS ⊢
        refine lv_i2l (v := ((s_X9_partsOfHerd τ_1 (nI k_1)).toInt64)) hx hb dX9_shares_42 rfl ?_
        refine lv_lmul hx hb dX9_shares_43 ?_
        refine lv_iload_n hx hb dX9_shares_44 rfl (lv_at hl 5 rfl) ?_
        refine lv_i2l (v := (a2.toInt64)) hx hb dX9_shares_45 rfl ?_
        refine lv_ldiv hx hb dX9_shares_46 (nz64 hnz) ?_
        refine lv_l2i (v := ((((a3.toInt64) * ((s_X9_partsOfHerd τ_1 (nI k_1)).toInt64)) / (a2.toInt64)).toInt32)) hx hb dX9_shares_47 rfl ?_
        refine va_iast_k (k := k_1) hx hb hK hP hD hS 32 0 wm_a43 rfl (ix_cl hk_1) (ix_loop (N := 20) hk_1 (ir_6 hI_1) (by decide) (by decide)) dX9_shares_48 (fun H locs hP hD hS => ?_)
        rw [wm_s43] at hP hD
        refine lv_iload hx hb dX9_shares_49 (lv_at hl 1 rfl) ?_
        refine lv_aload_n hx hb dX9_shares_51 rfl (lv_at hl 2 rfl) ?_
        refine va_get (D := D) (ci := 9) (v := .ref (ad 43)) (C := RX9) (T := TX9) (N := 51) hx hb hts hu9 hown hK hP 0 wm_0 rfl 43 (by decide) (hts (.fieldLink RX9 104 "GrazeBookModel" "hunger" "[I") (List.mem_cons_of_mem _ mw_826)) (fun _ h9 => h9) rfl dX9_shares_52 ?_
        refine lv_iload hx hb dX9_shares_55 (lv_at hl 0 rfl) ?_
        refine va_iald_k (k := k_1) (v := ((put τ_1 43 k_1 ((((a3.toInt64) * ((s_X9_partsOfHerd τ_1 (nI k_1)).toInt64)) / (a2.toInt64)).toInt32)) 43 k_1)) hx hb hK hP 32 0 wm_a43 rfl (ix_cl hk_1) rfl (ix_loop (N := 20) hk_1 (ir_6 hI_1) (by decide) (by decide)) dX9_shares_57 ?_
        refine lv_isub hx hb dX9_shares_58 ?_
        refine lv_istore (lv' := [(5, .int (v5_1 - ((put τ_1 43 k_1 ((((a3.toInt64) * ((s_X9_partsOfHerd τ_1 (nI k_1)).toInt64)) / (a2.toInt64)).toInt32)) 43 k_1))), (6, .int (nI k_1)), (0, .ref h), (1, .ref (ad 45)), (2, .int a1), (3, .int a2), (4, .int a3)]) hx hb dX9_shares_59 hl (by decide) rfl (fun ls hl => ?_)
        refine lv_iinc (v := (nI (k_1 + 1))) (lv' := [(6, .int (nI (k_1 + 1))), (5, .int (v5_1 - ((put τ_1 43 k_1 ((((a3.toInt64) * ((s_X9_partsOfHerd τ_1 (nI k_1)).toInt64)) / (a2.toInt64)).toInt32)) 43 k_1))), (0, .ref h), (1, .ref (ad 45)), (2, .int a1), (3, .int a2), (4, .int a3)]) hx hb dX9_shares_61 hl (k := 1) rfl (by rw [show Int32.ofInt 1 = 1 from by decide]; exact nI_1 _) (by decide) rfl (fun ls hl => ?_)
        refine lv_goto (tgt := 7) hx hb dX9_shares_64 (by decide) ?_
        subst hB_1
        exact ih (k_1 + 1) (v5_1 - ((put τ_1 43 k_1 ((((a3.toInt64) * ((s_X9_partsOfHerd τ_1 (nI k_1)).toInt64)) / (a2.toInt64)).toInt32)) 43 k_1)) (put τ_1 43 k_1 ((((a3.toInt64) * ((s_X9_partsOfHerd τ_1 (nI k_1)).toInt64)) / (a2.toInt64)).toInt32)) (ge_next hk_1) hI_1 _ _ _ hR hP hD hS (lv_sub hl [0, 1, 2, 3, 4, 5, 6] rfl)
      · have hB_1 := (if_neg c_18).symm.trans hB_1
        refine lv_goto (tgt := 61) hx hb dX9_shares_24 (by decide) ?_
        refine lv_iinc (v := (nI (k_1 + 1))) (lv' := [(6, .int (nI (k_1 + 1))), (5, .int v5_1), (0, .ref h), (1, .ref (ad 45)), (2, .int a1), (3, .int a2), (4, .int a3)]) hx hb dX9_shares_61 hl (k := 0) rfl (by rw [show Int32.ofInt 1 = 1 from by decide]; exact nI_1 _) (by decide) rfl (fun ls hl => ?_)
        refine lv_goto (tgt := 7) hx hb dX9_shares_64 (by decide) ?_
        subst hB_1
        exact ih (k_1 + 1) v5_1 τ_1 (ge_next hk_1) hI_1 _ _ _ hR hP hD hS (lv_sub hl [0, 1, 2, 3, 4, 5, 6] rfl)
  exact hL_1 _ 0 a3 σ ⟨rfl, by decide⟩ hI _ _ _ hR hP hD hS (lv_sub hl [0, 1, 2, 3, 4, 5, 6] rfl)

def s_X9_goesA_c56  : St → St := fun x9 => match x9 with
  | τ_2 => τ_2
def s_X9_goesA_c250  : St → St := fun x9 => match x9 with
  | τ_9 => τ_9
def s_X9_goesA_l250 (k_2 : Nat) (k_9 : Nat) : St → St := fun x9 => match x9 with
  | τ_9 => (if (τ_9 45 k_9) = (nI k_2) then (if (τ_9 18 k_2) = (0 : Int32) then (put τ_9 43 k_9 ((τ_9 43 k_9) + (s_X9_partsOfHerd τ_9 (nI k_9)))) else (put τ_9 43 k_9 ((τ_9 43 k_9) + (0 : Int32)))) else (put τ_9 43 k_9 ((τ_9 43 k_9) + (0 : Int32))))
def s_X9_goesA_j247 (k_2 : Nat) (τ_8 : St) : St := (s_X9_goesA_c250 (iter (s_X9_goesA_l250 k_2) ((τ_8 6 0).toNatClampNeg - 0) 0 τ_8))
def s_X9_goesA_j196 (k_2 : Nat) (v8_5 : Int32) (τ_7 : St) : St := (if v8_5 ≤ (if v8_5 < (τ_7 13 k_2) then v8_5 else (τ_7 13 k_2)) then (s_X9_goesA_j247 k_2 (put (put τ_7 13 k_2 ((τ_7 13 k_2) - (if v8_5 < (τ_7 13 k_2) then v8_5 else (τ_7 13 k_2)))) 46 k_2 ((τ_7 46 k_2) + (if v8_5 < (τ_7 13 k_2) then v8_5 else (τ_7 13 k_2))))) else (s_X9_goesA_j247 k_2 (s_X9_shares (put (put τ_7 13 k_2 ((τ_7 13 k_2) - (if v8_5 < (τ_7 13 k_2) then v8_5 else (τ_7 13 k_2)))) 46 k_2 ((τ_7 46 k_2) + (if v8_5 < (τ_7 13 k_2) then v8_5 else (τ_7 13 k_2)))) (nI k_2) v8_5 (v8_5 - (if v8_5 < (τ_7 13 k_2) then v8_5 else (τ_7 13 k_2))))))
def s_X9_goesA_j140 (a1 : Int32) (τ_1 : St) (k_2 : Nat) (v8_5 : Int32) (τ_6 : St) : St := (if (τ_6 14 k_2) ≤ (τ_6 13 k_2) then (s_X9_goesA_j196 k_2 v8_5 τ_6) else (s_X9_goesA_j196 k_2 v8_5 (put τ_6 13 k_2 ((if (((τ_6 13 k_2).toInt64) + (if ((((τ_1 22 ((((10 : Int32) * (τ_1 23 (a1.toNatClampNeg))) + (τ_1 24 (a1.toNatClampNeg))).toNatClampNeg)).toInt64) * ((τ_6 14 k_2).toInt64)) / (1000 : Int64)) < (1 : Int64) then (1 : Int64) else ((((τ_1 22 ((((10 : Int32) * (τ_1 23 (a1.toNatClampNeg))) + (τ_1 24 (a1.toNatClampNeg))).toNatClampNeg)).toInt64) * ((τ_6 14 k_2).toInt64)) / (1000 : Int64)))) < ((τ_6 14 k_2).toInt64) then (((τ_6 13 k_2).toInt64) + (if ((((τ_1 22 ((((10 : Int32) * (τ_1 23 (a1.toNatClampNeg))) + (τ_1 24 (a1.toNatClampNeg))).toNatClampNeg)).toInt64) * ((τ_6 14 k_2).toInt64)) / (1000 : Int64)) < (1 : Int64) then (1 : Int64) else ((((τ_1 22 ((((10 : Int32) * (τ_1 23 (a1.toNatClampNeg))) + (τ_1 24 (a1.toNatClampNeg))).toNatClampNeg)).toInt64) * ((τ_6 14 k_2).toInt64)) / (1000 : Int64)))) else ((τ_6 14 k_2).toInt64)).toInt32))))
def s_X9_goesA_c71 (a1 : Int32) (τ_1 : St) (k_2 : Nat) (τ_2 : St) : Int32 → St := fun x9 => match x9 with
  | v8_5 => (if (τ_1 23 (a1.toNatClampNeg)) < (8 : Int32) then (s_X9_goesA_j140 a1 τ_1 k_2 v8_5 τ_2) else (if v8_5 ≤ (0 : Int32) then (s_X9_goesA_j140 a1 τ_1 k_2 v8_5 τ_2) else (s_X9_goesA_j140 a1 τ_1 k_2 v8_5 (put τ_2 13 k_2 (if (0 : Int32) < ((τ_2 13 k_2) - (v8_5 / (100 : Int32))) then ((τ_2 13 k_2) - (v8_5 / (100 : Int32))) else (0 : Int32))))))
def s_X9_goesA_l71 (k_2 : Nat) (τ_2 : St) (k_5 : Nat) : Int32 → Int32 := fun x9 => match x9 with
  | v8_5 => (if (τ_2 45 k_5) = (nI k_2) then (v8_5 + (s_X9_partsOfHerd τ_2 (nI k_5))) else (v8_5 + (0 : Int32)))
def s_X9_goesA_l56 (a1 : Int32) (τ_1 : St) (k_2 : Nat) : St → St := fun x9 => match x9 with
  | τ_2 => (s_X9_goesA_c71 a1 τ_1 k_2 τ_2 (iter (s_X9_goesA_l71 k_2 τ_2) ((τ_2 6 0).toNatClampNeg - 0) 0 (0 : Int32)))
def s_X9_goesA_c3 (a1 : Int32) : St → St := fun x9 => match x9 with
  | τ_1 => (s_X9_goesA_c56 (iter (s_X9_goesA_l56 a1 τ_1) ((τ_1 2 0).toNatClampNeg - 0) 0 τ_1))
def s_X9_goesA_l3  (k_1 : Nat) : St → St := fun x9 => match x9 with
  | τ_1 => (put τ_1 43 k_1 (0 : Int32))
def s_X9_goesA (σ : St) (a1 : Int32) : St := (s_X9_goesA_c3 a1 (iter s_X9_goesA_l3 ((σ 6 0).toNatClampNeg - 0) 0 σ))
theorem fr_s_X9_goesA_c56  (s : St) {f : Nat} (h13 : f ≠ 13) (h43 : f ≠ 43) (h46 : f ≠ 46) : (s_X9_goesA_c56 s) f = s f := by
  unfold s_X9_goesA_c56
  all_goals ((try dsimp only) <;> ((repeat' split) <;> (try simp only [put_fr, ne_eq, not_false_eq_true, h13, h43, h46, fr_s_X9_shares])))
theorem fr_s_X9_goesA_c250  (s : St) {f : Nat} (h13 : f ≠ 13) (h43 : f ≠ 43) (h46 : f ≠ 46) : (s_X9_goesA_c250 s) f = s f := by
  unfold s_X9_goesA_c250
  all_goals ((try dsimp only) <;> ((repeat' split) <;> (try simp only [put_fr, ne_eq, not_false_eq_true, h13, h43, h46, fr_s_X9_shares, fr_s_X9_goesA_c56])))
theorem fr_s_X9_goesA_l250 (k_2 : Nat) (k_9 : Nat) (s : St) {f : Nat} (h13 : f ≠ 13) (h43 : f ≠ 43) (h46 : f ≠ 46) : (s_X9_goesA_l250 k_2 k_9 s) f = s f := by
  unfold s_X9_goesA_l250
  all_goals ((try dsimp only) <;> ((repeat' split) <;> (try simp only [put_fr, ne_eq, not_false_eq_true, h13, h43, h46, fr_s_X9_shares, fr_s_X9_goesA_c56, fr_s_X9_goesA_c250])))
theorem fri_s_X9_goesA_l250 (k_2 : Nat) (n k : Nat) (s : St) {f : Nat} (h13 : f ≠ 13) (h43 : f ≠ 43) (h46 : f ≠ 46) : (iter (s_X9_goesA_l250 k_2) n k s) f = s f := iter_fr (P := (fun s => s f)) (fun k s => fr_s_X9_goesA_l250 k_2 k s h13 h43 h46) n k s
theorem fr_s_X9_goesA_j247 (k_2 : Nat) (τ_8 : St) {f : Nat} (h13 : f ≠ 13) (h43 : f ≠ 43) (h46 : f ≠ 46) : (s_X9_goesA_j247 k_2 τ_8) f = τ_8 f := by
  unfold s_X9_goesA_j247
  all_goals ((try dsimp only) <;> ((repeat' split) <;> (try simp only [put_fr, ne_eq, not_false_eq_true, h13, h43, h46, fr_s_X9_shares, fr_s_X9_goesA_c56, fr_s_X9_goesA_c250, fri_s_X9_goesA_l250])))
theorem fr_s_X9_goesA_j196 (k_2 : Nat) (v8_5 : Int32) (τ_7 : St) {f : Nat} (h13 : f ≠ 13) (h43 : f ≠ 43) (h46 : f ≠ 46) : (s_X9_goesA_j196 k_2 v8_5 τ_7) f = τ_7 f := by
  unfold s_X9_goesA_j196
  all_goals ((try dsimp only) <;> ((repeat' split) <;> (try simp only [put_fr, ne_eq, not_false_eq_true, h13, h43, h46, fr_s_X9_shares, fr_s_X9_goesA_c56, fr_s_X9_goesA_c250, fri_s_X9_goesA_l250, fr_s_X9_goesA_j247])))
theorem fr_s_X9_goesA_j140 (a1 : Int32) (τ_1 : St) (k_2 : Nat) (v8_5 : Int32) (τ_6 : St) {f : Nat} (h13 : f ≠ 13) (h43 : f ≠ 43) (h46 : f ≠ 46) : (s_X9_goesA_j140 a1 τ_1 k_2 v8_5 τ_6) f = τ_6 f := by
  unfold s_X9_goesA_j140
  all_goals ((try dsimp only) <;> ((repeat' split) <;> (try simp only [put_fr, ne_eq, not_false_eq_true, h13, h43, h46, fr_s_X9_shares, fr_s_X9_goesA_c56, fr_s_X9_goesA_c250, fri_s_X9_goesA_l250, fr_s_X9_goesA_j247, fr_s_X9_goesA_j196])))
theorem fr_s_X9_goesA_c71 (a1 : Int32) (τ_1 : St) (k_2 : Nat) (τ_2 : St) (s : Int32) {f : Nat} (h13 : f ≠ 13) (h43 : f ≠ 43) (h46 : f ≠ 46) : (s_X9_goesA_c71 a1 τ_1 k_2 τ_2 s) f = τ_2 f := by
  unfold s_X9_goesA_c71
  all_goals ((try dsimp only) <;> ((repeat' split) <;> (try simp only [put_fr, ne_eq, not_false_eq_true, h13, h43, h46, fr_s_X9_shares, fr_s_X9_goesA_c56, fr_s_X9_goesA_c250, fri_s_X9_goesA_l250, fr_s_X9_goesA_j247, fr_s_X9_goesA_j196, fr_s_X9_goesA_j140])))
theorem fr_s_X9_goesA_l56 (a1 : Int32) (τ_1 : St) (k_2 : Nat) (s : St) {f : Nat} (h13 : f ≠ 13) (h43 : f ≠ 43) (h46 : f ≠ 46) : (s_X9_goesA_l56 a1 τ_1 k_2 s) f = s f := by
  unfold s_X9_goesA_l56
  all_goals ((try dsimp only) <;> ((repeat' split) <;> (try simp only [put_fr, ne_eq, not_false_eq_true, h13, h43, h46, fr_s_X9_shares, fr_s_X9_goesA_c56, fr_s_X9_goesA_c250, fri_s_X9_goesA_l250, fr_s_X9_goesA_j247, fr_s_X9_goesA_j196, fr_s_X9_goesA_j140, fr_s_X9_goesA_c71])))
theorem fri_s_X9_goesA_l56 (a1 : Int32) (τ_1 : St) (n k : Nat) (s : St) {f : Nat} (h13 : f ≠ 13) (h43 : f ≠ 43) (h46 : f ≠ 46) : (iter (s_X9_goesA_l56 a1 τ_1) n k s) f = s f := iter_fr (P := (fun s => s f)) (fun k s => fr_s_X9_goesA_l56 a1 τ_1 k s h13 h43 h46) n k s
theorem fr_s_X9_goesA_c3 (a1 : Int32) (s : St) {f : Nat} (h13 : f ≠ 13) (h43 : f ≠ 43) (h46 : f ≠ 46) : (s_X9_goesA_c3 a1 s) f = s f := by
  unfold s_X9_goesA_c3
  all_goals ((try dsimp only) <;> ((repeat' split) <;> (try simp only [put_fr, ne_eq, not_false_eq_true, h13, h43, h46, fr_s_X9_shares, fr_s_X9_goesA_c56, fr_s_X9_goesA_c250, fri_s_X9_goesA_l250, fr_s_X9_goesA_j247, fr_s_X9_goesA_j196, fr_s_X9_goesA_j140, fr_s_X9_goesA_c71, fri_s_X9_goesA_l56])))
theorem fr_s_X9_goesA_l3  (k_1 : Nat) (s : St) {f : Nat} (h13 : f ≠ 13) (h43 : f ≠ 43) (h46 : f ≠ 46) : (s_X9_goesA_l3 k_1 s) f = s f := by
  unfold s_X9_goesA_l3
  all_goals ((try dsimp only) <;> ((repeat' split) <;> (try simp only [put_fr, ne_eq, not_false_eq_true, h13, h43, h46, fr_s_X9_shares, fr_s_X9_goesA_c56, fr_s_X9_goesA_c250, fri_s_X9_goesA_l250, fr_s_X9_goesA_j247, fr_s_X9_goesA_j196, fr_s_X9_goesA_j140, fr_s_X9_goesA_c71, fri_s_X9_goesA_l56, fr_s_X9_goesA_c3])))
theorem fri_s_X9_goesA_l3  (n k : Nat) (s : St) {f : Nat} (h13 : f ≠ 13) (h43 : f ≠ 43) (h46 : f ≠ 46) : (iter s_X9_goesA_l3 n k s) f = s f := iter_fr (P := (fun s => s f)) (fun k s => fr_s_X9_goesA_l3  k s h13 h43 h46) n k s
theorem fr_s_X9_goesA (σ : St) (a1 : Int32) {f : Nat} (h13 : f ≠ 13) (h43 : f ≠ 43) (h46 : f ≠ 46) : (s_X9_goesA σ a1 ) f = σ f := by
  unfold s_X9_goesA
  all_goals ((try dsimp only) <;> ((repeat' split) <;> (try simp only [put_fr, ne_eq, not_false_eq_true, h13, h43, h46, fr_s_X9_shares, fr_s_X9_goesA_c56, fr_s_X9_goesA_c250, fri_s_X9_goesA_l250, fr_s_X9_goesA_j247, fr_s_X9_goesA_j196, fr_s_X9_goesA_j140, fr_s_X9_goesA_c71, fri_s_X9_goesA_l56, fr_s_X9_goesA_c3, fri_s_X9_goesA_l3])))
set_option maxHeartbeats 1000000 in
set_option maxRecDepth 100000 in
theorem k_X9_goesA (l : Launch) (D : va_G) (ca : Nat → ClassId) (h : Nat) (ad : Nat → Nat) (σ : St) (a1 : Int32) (sz : Nat) (hI : IR σ) (ho : vp_in a1 721) (R : St) (hR : s_X9_goesA σ a1 = R) : Met l yX9_goes wsX9_goes ({ frames := 3, cells := 0, slots := 0, locals := 73 }) (va_Pc [.ref h, .ref (ad 13), .ref (ad 45), .int a1, .ref (ad 46)] (pw_pre D ca (WM ca h ad σ) sz)) (va_Qv (fun _ : Unit => True) (fun (_ : Unit) (t : State) => pw_post D ca (WM ca h ad σ) sz (WM ca h ad R) t ∧ IR R) (va_A (WM ca h ad σ) sz)) 0 0 (va_A (WM ca h ad σ) sz) := by
  refine Met.ofW (cc := cX9_goes) (maxL := 11) (ret := none) (by decide) rfl ?_
  intro p e s m args below meth c s₁ B hml hv
  obtain ⟨rfl, hsz, hP, hK, hD0⟩ := hv
  have hx := B.exec
  have hb := B.bytes
  have hr := B.returns
  have hts := atoms_spec (ws := wsX9_goes) B.pre
  have hown : s.vm.findClass RX9 = some m.cls := findClass_of_methodNamed B.named
  have hlocks := B.notSynchronized
  have hu9 : ∀ w ∈ u_ws RX9 TX9 51, w ∈ wsX9_goes := fun w h => List.mem_cons_of_mem _ (uw9 w h)
  subst hsz
  have hD := hD0.self (sz := s.heap.size)
  obtain ⟨A, hAe⟩ : ∃ A, A = va_A (WM ca h ad σ) s.heap.size := ⟨_, rfl⟩
  rw [← hAe] at hD ⊢
  have hA : ∀ q : Nat, s.heap.size ≤ q → A q := fun q h => by rw [hAe]; exact Or.inr h
  have hS : va_S A s.heap s.heap [] := va_S.rf
  have hl := lv_entry ([.ref h, .ref (ad 13), .ref (ad 45), .int a1, .ref (ad 46)]) (n := 11) (Nat.le_of_ble_eq_true rfl)
  rw [lg_entry_eq]
  generalize (lg_sl ([.ref h, .ref (ad 13), .ref (ad 45), .int a1, .ref (ad 46)]) ++ List.replicate (11 - (lg_sl ([.ref h, .ref (ad 13), .ref (ad 45), .int a1, .ref (ad 46)])).length) Slot.unset).toArray = ls at hl ⊢
  have hl : lv_has ls 11 [(0, .ref h), (1, .ref (ad 13)), (2, .ref (ad 45)), (3, .int a1), (4, .ref (ad 46))] := hl
  obtain ⟨H, hH⟩ : ∃ H, H = s.heap := ⟨_, rfl⟩
  have hP : va_P D vwCl (WM ca h ad σ) H := by rw [hH]; exact hP
  have hS : va_S A s.heap H [] := by rw [hH]; exact hS
  obtain ⟨QQ, hQ⟩ : ∃ Q9, Q9 = MQ below (va_Qv (fun _ : Unit => True) (fun (_ : Unit) (t : State) => pw_post D ca (WM ca h ad σ) s.heap.size (WM ca h ad R) t ∧ IR R) A) ([.ref h, .ref (ad 13), .ref (ad 45), .int a1, .ref (ad 46)] : List Value).toArray s 0 0 A := ⟨_, rfl⟩
  rw [← hQ]
  show W _ _ _ _ _ _ _ _ _ _ s.heap _ _ _ _ _
  rw [← hH]
  have hR : (s_X9_goesA_c3 a1 (iter s_X9_goesA_l3 ((σ 6 0).toNatClampNeg - 0) 0 σ)) = R := hR
  refine lv_iconst (v := (0 : Int32)) hx hb dX9_goes_0 (by decide) ?_
  refine lv_istore (lv' := [(5, .int (0 : Int32)), (0, .ref h), (1, .ref (ad 13)), (2, .ref (ad 45)), (3, .int a1), (4, .ref (ad 46))]) hx hb dX9_goes_1 hl (by decide) rfl (fun ls hl => ?_)
  have hE_1 : ∀ (τ_1 : St) (hI_1 : IR τ_1) (H : Heap) (locs : List Loc) (ls : Array Slot), s_X9_goesA_c3 a1 τ_1 = R → va_P D vwCl (WM ca h ad τ_1) H → va_D A (WM ca h ad τ_1) → va_S A s.heap H locs → lv_has ls 11 [(0, .ref h), (1, .ref (ad 13)), (2, .ref (ad 45)), (3, .int a1), (4, .ref (ad 46))] → W p l e ((headSpec wsX9_goes ({ frames := 3, cells := 0, slots := 0, locals := 73 })).room) s m ([.ref h, .ref (ad 13), .ref (ad 45), .int a1, .ref (ad 46)] : List Value).toArray below meth c H locs 0 0 QQ (F0 m 26 ls []) := by
    intro τ_1 hI_1 H locs ls hR hP hD hS hl
    have hR : (s_X9_goesA_c56 (iter (s_X9_goesA_l56 a1 τ_1) ((τ_1 2 0).toNatClampNeg - 0) 0 τ_1)) = R := hR
    refine lv_aload_n hx hb dX9_goes_26 rfl (lv_at hl 0 rfl) ?_
    refine va_get (D := D) (ci := 9) (v := .ref (ad 23)) (C := RX9) (T := TX9) (N := 51) hx hb hts hu9 hown hK hP 0 wm_0 rfl 23 (by decide) (hts (.fieldLink RX9 44 "GrazeBookModel" "rains" "[I") (List.mem_cons_of_mem _ mw_806)) (fun _ h9 => h9) rfl dX9_goes_27 ?_
    refine lv_iload_n hx hb dX9_goes_30 rfl (lv_at hl 3 rfl) ?_
    refine va_iald_k (k := (a1.toNatClampNeg)) (v := (τ_1 23 (a1.toNatClampNeg))) hx hb hK hP 12 0 wm_a23 rfl rfl rfl ho dX9_goes_31 ?_
    refine lv_istore (lv' := [(5, .int (τ_1 23 (a1.toNatClampNeg))), (0, .ref h), (1, .ref (ad 13)), (2, .ref (ad 45)), (3, .int a1), (4, .ref (ad 46))]) hx hb dX9_goes_32 hl (by decide) rfl (fun ls hl => ?_)
    refine lv_aload_n hx hb dX9_goes_34 rfl (lv_at hl 1 rfl) ?_
    refine va_get (D := D) (ci := 9) (v := .ref (ad 22)) (C := RX9) (T := TX9) (N := 51) hx hb hts hu9 hown hK hP 0 wm_0 rfl 22 (by decide) (hts (.fieldLink RX9 41 "GrazeBookModel" "rates" "[I") (List.mem_cons_of_mem _ mw_805)) (fun _ h9 => h9) rfl dX9_goes_35 ?_
    refine lv_bipush (v := (10 : Int32)) hx hb dX9_goes_38 (by decide) ?_
    refine lv_iload hx hb dX9_goes_40 (lv_at hl 0 rfl) ?_
    refine lv_imul hx hb dX9_goes_42 ?_
    refine lv_aload_n hx hb dX9_goes_43 rfl (lv_at hl 1 rfl) ?_
    refine va_get (D := D) (ci := 9) (v := .ref (ad 24)) (C := RX9) (T := TX9) (N := 51) hx hb hts hu9 hown hK hP 0 wm_0 rfl 24 (by decide) (hts (.fieldLink RX9 47 "GrazeBookModel" "warmths" "[I") (List.mem_cons_of_mem _ mw_807)) (fun _ h9 => h9) rfl dX9_goes_44 ?_
    refine lv_iload_n hx hb dX9_goes_47 rfl (lv_at hl 4 rfl) ?_
    refine va_iald_k (k := (a1.toNatClampNeg)) (v := (τ_1 24 (a1.toNatClampNeg))) hx hb hK hP 13 0 wm_a24 rfl rfl rfl ho dX9_goes_48 ?_
    refine lv_iadd hx hb dX9_goes_49 ?_
    refine va_iald_k (k := ((((10 : Int32) * (τ_1 23 (a1.toNatClampNeg))) + (τ_1 24 (a1.toNatClampNeg))).toNatClampNeg)) (v := (τ_1 22 ((((10 : Int32) * (τ_1 23 (a1.toNatClampNeg))) + (τ_1 24 (a1.toNatClampNeg))).toNatClampNeg))) hx hb hK hP 11 0 wm_a22 rfl rfl rfl (ix_rate (vp_mono (n := 10) (vp_in_iff.mpr (ir_23 hI_1 (a1.toNatClampNeg))) (by decide)) (vp_mono (n := 10) (vp_in_iff.mpr (ir_24 hI_1 (a1.toNatClampNeg))) (by decide))) dX9_goes_50 ?_
    refine lv_istore (lv' := [(6, .int (τ_1 22 ((((10 : Int32) * (τ_1 23 (a1.toNatClampNeg))) + (τ_1 24 (a1.toNatClampNeg))).toNatClampNeg))), (5, .int (τ_1 23 (a1.toNatClampNeg))), (0, .ref h), (1, .ref (ad 13)), (2, .ref (ad 45)), (3, .int a1), (4, .ref (ad 46))]) hx hb dX9_goes_51 hl (by decide) rfl (fun ls hl => ?_)
    refine lv_iconst (v := (0 : Int32)) hx hb dX9_goes_53 (by decide) ?_
    refine lv_istore (lv' := [(7, .int (0 : Int32)), (6, .int (τ_1 22 ((((10 : Int32) * (τ_1 23 (a1.toNatClampNeg))) + (τ_1 24 (a1.toNatClampNeg))).toNatClampNeg))), (5, .int (τ_1 23 (a1.toNatClampNeg))), (0, .ref h), (1, .ref (ad 13)), (2, .ref (ad 45)), (3, .int a1), (4, .ref (ad 46))]) hx hb dX9_goes_54 hl (by decide) rfl (fun ls hl => ?_)
    have hE_2 : ∀ (τ_2 : St) (hI_2 : IR τ_2) (H : Heap) (locs : List Loc) (ls : Array Slot), s_X9_goesA_c56 τ_2 = R → va_P D vwCl (WM ca h ad τ_2) H → va_D A (WM ca h ad τ_2) → va_S A s.heap H locs → lv_has ls 11 [] → W p l e ((headSpec wsX9_goes ({ frames := 3, cells := 0, slots := 0, locals := 73 })).room) s m ([.ref h, .ref (ad 13), .ref (ad 45), .int a1, .ref (ad 46)] : List Value).toArray below meth c H locs 0 0 QQ (F0 m 310 ls []) := by
      intro τ_2 hI_2 H locs ls hR hP hD hS hl
      have hR : τ_2 = R := hR
      have hI9 : IR τ_2 := hI_2
      subst hR
      rw [hQ]
      exact W.vret hx hb hr (fun t ht hW => ⟨⟨(), rfl, trivial, ⟨by rw [ht]; exact hP, va_K.moved hW.alike hK, by rw [← hAe]; exact hD⟩, hI9⟩, hS.F ht⟩) hS.2.2 dX9_goes_310
    have hL_2 : ∀ (n k_2 : Nat) (τ_2 : St) (hk_2 : lpk (τ_2 2 0) k_2 n) (hI_2 : IR τ_2) (H : Heap) (locs : List Loc) (ls : Array Slot), s_X9_goesA_c56 (iter (s_X9_goesA_l56 a1 τ_1) n k_2 τ_2) = R → va_P D vwCl (WM ca h ad τ_2) H → va_D A (WM ca h ad τ_2) → va_S A s.heap H locs → lv_has ls 11 [(7, .int (nI k_2)), (6, .int (τ_1 22 ((((10 : Int32) * (τ_1 23 (a1.toNatClampNeg))) + (τ_1 24 (a1.toNatClampNeg))).toNatClampNeg))), (5, .int (τ_1 23 (a1.toNatClampNeg))), (0, .ref h), (1, .ref (ad 13)), (2, .ref (ad 45)), (4, .ref (ad 46))] → W p l e ((headSpec wsX9_goes ({ frames := 3, cells := 0, slots := 0, locals := 73 })).room) s m ([.ref h, .ref (ad 13), .ref (ad 45), .int a1, .ref (ad 46)] : List Value).toArray below meth c H locs 0 0 QQ (F0 m 56 ls []) := by
      intro n
      induction n with
      | zero =>
        intro k_2 τ_2 hk_2 hI_2 H locs ls hR hP hD hS hl
        refine lv_iload hx hb dX9_goes_56 (lv_at hl 0 rfl) ?_
        refine lv_aload_n hx hb dX9_goes_58 rfl (lv_at hl 3 rfl) ?_
        refine va_get (D := D) (ci := 9) (v := .int (τ_2 2 0)) (C := RX9) (T := TX9) (N := 51) hx hb hts hu9 hown hK hP 0 wm_0 rfl 2 (by decide) (hts (.fieldLink RX9 127 "GrazeBookModel" "pieces" "I") (List.mem_cons_of_mem _ mw_785)) (fun _ h9 => h9) rfl dX9_goes_59 ?_
        refine lv_icmp_ge (tgt := 310) hx hb dX9_goes_62 (by decide) (fun _ => ?_) (fun c_3 => absurd (ge_end hk_2) c_3)
        exact hE_2 τ_2 hI_2 _ _ _ hR hP hD hS (lv_sub hl [] rfl)
      | succ n ih =>
        intro k_2 τ_2 hk_2 hI_2 H locs ls hR hP hD hS hl
        obtain ⟨S_2, hB_2⟩ : ∃ s9, s_X9_goesA_l56 a1 τ_1 k_2 τ_2 = s9 := ⟨_, rfl⟩
        have hR : s_X9_goesA_c56 (iter (s_X9_goesA_l56 a1 τ_1) n (k_2 + 1) S_2) = R := by rw [← hB_2]; exact hR
        have hB_2 : (s_X9_goesA_c71 a1 τ_1 k_2 τ_2 (iter (s_X9_goesA_l71 k_2 τ_2) ((τ_2 6 0).toNatClampNeg - 0) 0 (0 : Int32))) = S_2 := hB_2
        refine lv_iload hx hb dX9_goes_56 (lv_at hl 0 rfl) ?_
        refine lv_aload_n hx hb dX9_goes_58 rfl (lv_at hl 3 rfl) ?_
        refine va_get (D := D) (ci := 9) (v := .int (τ_2 2 0)) (C := RX9) (T := TX9) (N := 51) hx hb hts hu9 hown hK hP 0 wm_0 rfl 2 (by decide) (hts (.fieldLink RX9 127 "GrazeBookModel" "pieces" "I") (List.mem_cons_of_mem _ mw_785)) (fun _ h9 => h9) rfl dX9_goes_59 ?_
        refine lv_icmp_ge (tgt := 310) hx hb dX9_goes_62 (by decide) (fun c_4 => absurd c_4 (ge_go hk_2)) (fun _ => ?_)
        refine lv_iconst (v := (0 : Int32)) hx hb dX9_goes_65 (by decide) ?_
        refine lv_istore (lv' := [(8, .int (0 : Int32)), (7, .int (nI k_2)), (6, .int (τ_1 22 ((((10 : Int32) * (τ_1 23 (a1.toNatClampNeg))) + (τ_1 24 (a1.toNatClampNeg))).toNatClampNeg))), (5, .int (τ_1 23 (a1.toNatClampNeg))), (0, .ref h), (1, .ref (ad 13)), (2, .ref (ad 45)), (4, .ref (ad 46))]) hx hb dX9_goes_66 hl (by decide) rfl (fun ls hl => ?_)
        refine lv_iconst (v := (0 : Int32)) hx hb dX9_goes_68 (by decide) ?_
        refine lv_istore (lv' := [(9, .int (0 : Int32)), (8, .int (0 : Int32)), (7, .int (nI k_2)), (6, .int (τ_1 22 ((((10 : Int32) * (τ_1 23 (a1.toNatClampNeg))) + (τ_1 24 (a1.toNatClampNeg))).toNatClampNeg))), (5, .int (τ_1 23 (a1.toNatClampNeg))), (0, .ref h), (1, .ref (ad 13)), (2, .ref (ad 45)), (4, .ref (ad 46))]) hx hb dX9_goes_69 hl (by decide) rfl (fun ls hl => ?_)
        have hE_5 : ∀ (v8_5 : Int32) (ha_5 : 0 ≤ v8_5.toInt ∧ v8_5.toInt ≤ 90000) (H : Heap) (locs : List Loc) (ls : Array Slot), s_X9_goesA_c71 a1 τ_1 k_2 τ_2 v8_5 = S_2 → va_P D vwCl (WM ca h ad τ_2) H → va_D A (WM ca h ad τ_2) → va_S A s.heap H locs → lv_has ls 11 [(8, .int v8_5), (7, .int (nI k_2)), (6, .int (τ_1 22 ((((10 : Int32) * (τ_1 23 (a1.toNatClampNeg))) + (τ_1 24 (a1.toNatClampNeg))).toNatClampNeg))), (5, .int (τ_1 23 (a1.toNatClampNeg))), (0, .ref h), (1, .ref (ad 13)), (2, .ref (ad 45)), (4, .ref (ad 46))] → W p l e ((headSpec wsX9_goes ({ frames := 3, cells := 0, slots := 0, locals := 73 })).room) s m ([.ref h, .ref (ad 13), .ref (ad 45), .int a1, .ref (ad 46)] : List Value).toArray below meth c H locs 0 0 QQ (F0 m 110 ls []) := by
          intro v8_5 ha_5 H locs ls hB_2 hP hD hS hl
          have hB_2 : (if (τ_1 23 (a1.toNatClampNeg)) < (8 : Int32) then (s_X9_goesA_j140 a1 τ_1 k_2 v8_5 τ_2) else (if v8_5 ≤ (0 : Int32) then (s_X9_goesA_j140 a1 τ_1 k_2 v8_5 τ_2) else (s_X9_goesA_j140 a1 τ_1 k_2 v8_5 (put τ_2 13 k_2 (if (0 : Int32) < ((τ_2 13 k_2) - (v8_5 / (100 : Int32))) then ((τ_2 13 k_2) - (v8_5 / (100 : Int32))) else (0 : Int32)))))) = S_2 := hB_2
          refine lv_iload hx hb dX9_goes_110 (lv_at hl 3 rfl) ?_
          refine lv_bipush (v := (8 : Int32)) hx hb dX9_goes_112 (by decide) ?_
          have hJ_6 : ∀ (τ_6 : St) (hI_6 : IR τ_6) (hf2_6 : τ_6 2 = τ_2 2) (H : Heap) (locs : List Loc) (ls : Array Slot), s_X9_goesA_j140 a1 τ_1 k_2 v8_5 τ_6 = S_2 → va_P D vwCl (WM ca h ad τ_6) H → va_D A (WM ca h ad τ_6) → va_S A s.heap H locs → lv_has ls 11 [(8, .int v8_5), (7, .int (nI k_2)), (6, .int (τ_1 22 ((((10 : Int32) * (τ_1 23 (a1.toNatClampNeg))) + (τ_1 24 (a1.toNatClampNeg))).toNatClampNeg))), (5, .int (τ_1 23 (a1.toNatClampNeg))), (0, .ref h), (1, .ref (ad 13)), (2, .ref (ad 45)), (4, .ref (ad 46))] → W p l e ((headSpec wsX9_goes ({ frames := 3, cells := 0, slots := 0, locals := 73 })).room) s m ([.ref h, .ref (ad 13), .ref (ad 45), .int a1, .ref (ad 46)] : List Value).toArray below meth c H locs 0 0 QQ (F0 m 140 ls []) := by
            intro τ_6 hI_6 hf2_6 H locs ls hB_2 hP hD hS hl
            have hB_2 : (if (τ_6 14 k_2) ≤ (τ_6 13 k_2) then (s_X9_goesA_j196 k_2 v8_5 τ_6) else (s_X9_goesA_j196 k_2 v8_5 (put τ_6 13 k_2 ((if (((τ_6 13 k_2).toInt64) + (if ((((τ_1 22 ((((10 : Int32) * (τ_1 23 (a1.toNatClampNeg))) + (τ_1 24 (a1.toNatClampNeg))).toNatClampNeg)).toInt64) * ((τ_6 14 k_2).toInt64)) / (1000 : Int64)) < (1 : Int64) then (1 : Int64) else ((((τ_1 22 ((((10 : Int32) * (τ_1 23 (a1.toNatClampNeg))) + (τ_1 24 (a1.toNatClampNeg))).toNatClampNeg)).toInt64) * ((τ_6 14 k_2).toInt64)) / (1000 : Int64)))) < ((τ_6 14 k_2).toInt64) then (((τ_6 13 k_2).toInt64) + (if ((((τ_1 22 ((((10 : Int32) * (τ_1 23 (a1.toNatClampNeg))) + (τ_1 24 (a1.toNatClampNeg))).toNatClampNeg)).toInt64) * ((τ_6 14 k_2).toInt64)) / (1000 : Int64)) < (1 : Int64) then (1 : Int64) else ((((τ_1 22 ((((10 : Int32) * (τ_1 23 (a1.toNatClampNeg))) + (τ_1 24 (a1.toNatClampNeg))).toNatClampNeg)).toInt64) * ((τ_6 14 k_2).toInt64)) / (1000 : Int64)))) else ((τ_6 14 k_2).toInt64)).toInt32)))) = S_2 := hB_2
            refine lv_aload_n hx hb dX9_goes_140 rfl (lv_at hl 5 rfl) ?_
            refine lv_iload hx hb dX9_goes_141 (lv_at hl 1 rfl) ?_
            refine va_iald_k (k := k_2) (v := (τ_6 13 k_2)) hx hb hK hP 2 0 wm_a13 rfl (ix_cl hk_2) rfl (ix_loop (N := 6) hk_2 (ir_2 hI_2) (by decide) (by decide)) dX9_goes_143 ?_
            refine lv_aload_n hx hb dX9_goes_144 rfl (lv_at hl 4 rfl) ?_
            refine va_get (D := D) (ci := 9) (v := .ref (ad 14)) (C := RX9) (T := TX9) (N := 51) hx hb hts hu9 hown hK hP 0 wm_0 rfl 14 (by decide) (hts (.fieldLink RX9 16 "GrazeBookModel" "full" "[I") (List.mem_cons_of_mem _ mw_797)) (fun _ h9 => h9) rfl dX9_goes_145 ?_
            refine lv_iload hx hb dX9_goes_148 (lv_at hl 1 rfl) ?_
            refine va_iald_k (k := k_2) (v := (τ_6 14 k_2)) hx hb hK hP 3 0 wm_a14 rfl (ix_cl hk_2) rfl (ix_loop (N := 6) hk_2 (ir_2 hI_2) (by decide) (by decide)) dX9_goes_150 ?_
            have hJ_7 : ∀ (τ_7 : St) (hI_7 : IR τ_7) (hf2_7 : τ_7 2 = τ_2 2) (H : Heap) (locs : List Loc) (ls : Array Slot), s_X9_goesA_j196 k_2 v8_5 τ_7 = S_2 → va_P D vwCl (WM ca h ad τ_7) H → va_D A (WM ca h ad τ_7) → va_S A s.heap H locs → lv_has ls 11 [(8, .int v8_5), (7, .int (nI k_2)), (6, .int (τ_1 22 ((((10 : Int32) * (τ_1 23 (a1.toNatClampNeg))) + (τ_1 24 (a1.toNatClampNeg))).toNatClampNeg))), (5, .int (τ_1 23 (a1.toNatClampNeg))), (0, .ref h), (1, .ref (ad 13)), (2, .ref (ad 45)), (4, .ref (ad 46))] → W p l e ((headSpec wsX9_goes ({ frames := 3, cells := 0, slots := 0, locals := 73 })).room) s m ([.ref h, .ref (ad 13), .ref (ad 45), .int a1, .ref (ad 46)] : List Value).toArray below meth c H locs 0 0 QQ (F0 m 196 ls []) := by
              intro τ_7 hI_7 hf2_7 H locs ls hB_2 hP hD hS hl
              have hB_2 : (if v8_5 ≤ (if v8_5 < (τ_7 13 k_2) then v8_5 else (τ_7 13 k_2)) then (s_X9_goesA_j247 k_2 (put (put τ_7 13 k_2 ((τ_7 13 k_2) - (if v8_5 < (τ_7 13 k_2) then v8_5 else (τ_7 13 k_2)))) 46 k_2 ((τ_7 46 k_2) + (if v8_5 < (τ_7 13 k_2) then v8_5 else (τ_7 13 k_2))))) else (s_X9_goesA_j247 k_2 (s_X9_shares (put (put τ_7 13 k_2 ((τ_7 13 k_2) - (if v8_5 < (τ_7 13 k_2) then v8_5 else (τ_7 13 k_2)))) 46 k_2 ((τ_7 46 k_2) + (if v8_5 < (τ_7 13 k_2) then v8_5 else (τ_7 13 k_2)))) (nI k_2) v8_5 (v8_5 - (if v8_5 < (τ_7 13 k_2) then v8_5 else (τ_7 13 k_2)))))) = S_2 := hB_2
              refine lv_aload_n hx hb dX9_goes_196 rfl (lv_at hl 5 rfl) ?_
              refine lv_iload hx hb dX9_goes_197 (lv_at hl 1 rfl) ?_
              refine va_iald_k (k := k_2) (v := (τ_7 13 k_2)) hx hb hK hP 2 0 wm_a13 rfl (ix_cl hk_2) rfl (ix_loop (N := 6) hk_2 (ir_2 hI_2) (by decide) (by decide)) dX9_goes_199 ?_
              refine lv_iload hx hb dX9_goes_200 (lv_at hl 0 rfl) ?_
              refine va_mmin hx hb (hml.trans hl.1.symm) hown (hts (.methodLink RX9 173 Lib.Math.min.name) (List.mem_cons_of_mem _ mw_1025)) (hts (.static Lib.Math.min.name) (List.mem_cons_of_mem _ mw_588)) (hts (.initialized "java/lang/Math") (List.mem_cons_of_mem _ mw_68)) (hts (.code Lib.Math.min.name Lib.Math.min.code 2 (some .int)) (List.mem_cons_of_mem _ mw_589)) (Nat.le_of_ble_eq_true rfl) (Nat.le_of_ble_eq_true rfl) (Nat.le_of_ble_eq_true rfl) (Nat.le_of_ble_eq_true rfl) dX9_goes_202 ?_
              refine lv_istore (lv' := [(9, .int (if v8_5 < (τ_7 13 k_2) then v8_5 else (τ_7 13 k_2))), (8, .int v8_5), (7, .int (nI k_2)), (6, .int (τ_1 22 ((((10 : Int32) * (τ_1 23 (a1.toNatClampNeg))) + (τ_1 24 (a1.toNatClampNeg))).toNatClampNeg))), (5, .int (τ_1 23 (a1.toNatClampNeg))), (0, .ref h), (1, .ref (ad 13)), (2, .ref (ad 45)), (4, .ref (ad 46))]) hx hb dX9_goes_205 hl (by decide) rfl (fun ls hl => ?_)
              refine lv_aload_n hx hb dX9_goes_207 rfl (lv_at hl 6 rfl) ?_
              refine lv_iload hx hb dX9_goes_208 (lv_at hl 2 rfl) ?_
              refine lv_dup2_11 hx hb dX9_goes_210 rfl rfl ?_
              refine va_iald_k (k := k_2) (v := (τ_7 13 k_2)) hx hb hK hP 2 0 wm_a13 rfl (ix_cl hk_2) rfl (ix_loop (N := 6) hk_2 (ir_2 hI_2) (by decide) (by decide)) dX9_goes_211 ?_
              refine lv_iload hx hb dX9_goes_212 (lv_at hl 0 rfl) ?_
              refine lv_isub hx hb dX9_goes_214 ?_
              refine va_iast_k (k := k_2) hx hb hK hP hD hS 2 0 wm_a13 rfl (ix_cl hk_2) (ix_loop (N := 6) hk_2 (ir_2 hI_2) (by decide) (by decide)) dX9_goes_215 (fun H locs hP hD hS => ?_)
              rw [wm_s13] at hP hD
              refine lv_aload hx hb dX9_goes_216 (lv_at hl 8 rfl) ?_
              refine lv_iload hx hb dX9_goes_218 (lv_at hl 2 rfl) ?_
              refine lv_dup2_11 hx hb dX9_goes_220 rfl rfl ?_
              refine va_iald_k (k := k_2) (v := (τ_7 46 k_2)) hx hb hK hP 35 0 wm_a46 rfl (ix_cl hk_2) rfl (ix_loop (N := 6) hk_2 (ir_2 hI_2) (by decide) (by decide)) dX9_goes_221 ?_
              refine lv_iload hx hb dX9_goes_222 (lv_at hl 0 rfl) ?_
              refine lv_iadd hx hb dX9_goes_224 ?_
              refine va_iast_k (k := k_2) hx hb hK hP hD hS 35 0 wm_a46 rfl (ix_cl hk_2) (ix_loop (N := 6) hk_2 (ir_2 hI_2) (by decide) (by decide)) dX9_goes_225 (fun H locs hP hD hS => ?_)
              rw [wm_s46] at hP hD
              refine lv_iload hx hb dX9_goes_226 (lv_at hl 1 rfl) ?_
              refine lv_iload hx hb dX9_goes_228 (lv_at hl 0 rfl) ?_
              have hJ_8 : ∀ (τ_8 : St) (hI_8 : IR τ_8) (hf2_8 : τ_8 2 = τ_2 2) (H : Heap) (locs : List Loc) (ls : Array Slot), s_X9_goesA_j247 k_2 τ_8 = S_2 → va_P D vwCl (WM ca h ad τ_8) H → va_D A (WM ca h ad τ_8) → va_S A s.heap H locs → lv_has ls 11 [(7, .int (nI k_2)), (6, .int (τ_1 22 ((((10 : Int32) * (τ_1 23 (a1.toNatClampNeg))) + (τ_1 24 (a1.toNatClampNeg))).toNatClampNeg))), (5, .int (τ_1 23 (a1.toNatClampNeg))), (0, .ref h), (1, .ref (ad 13)), (2, .ref (ad 45)), (4, .ref (ad 46))] → W p l e ((headSpec wsX9_goes ({ frames := 3, cells := 0, slots := 0, locals := 73 })).room) s m ([.ref h, .ref (ad 13), .ref (ad 45), .int a1, .ref (ad 46)] : List Value).toArray below meth c H locs 0 0 QQ (F0 m 247 ls []) := by
                intro τ_8 hI_8 hf2_8 H locs ls hB_2 hP hD hS hl
                have hB_2 : (s_X9_goesA_c250 (iter (s_X9_goesA_l250 k_2) ((τ_8 6 0).toNatClampNeg - 0) 0 τ_8)) = S_2 := hB_2
                refine lv_iconst (v := (0 : Int32)) hx hb dX9_goes_247 (by decide) ?_
                refine lv_istore (lv' := [(10, .int (0 : Int32)), (7, .int (nI k_2)), (6, .int (τ_1 22 ((((10 : Int32) * (τ_1 23 (a1.toNatClampNeg))) + (τ_1 24 (a1.toNatClampNeg))).toNatClampNeg))), (5, .int (τ_1 23 (a1.toNatClampNeg))), (0, .ref h), (1, .ref (ad 13)), (2, .ref (ad 45)), (4, .ref (ad 46))]) hx hb dX9_goes_248 hl (by decide) rfl (fun ls hl => ?_)
                have hE_9 : ∀ (τ_9 : St) (hI_9 : IR τ_9) (hf2_9 : τ_9 2 = τ_2 2) (H : Heap) (locs : List Loc) (ls : Array Slot), s_X9_goesA_c250 τ_9 = S_2 → va_P D vwCl (WM ca h ad τ_9) H → va_D A (WM ca h ad τ_9) → va_S A s.heap H locs → lv_has ls 11 [(7, .int (nI k_2)), (6, .int (τ_1 22 ((((10 : Int32) * (τ_1 23 (a1.toNatClampNeg))) + (τ_1 24 (a1.toNatClampNeg))).toNatClampNeg))), (5, .int (τ_1 23 (a1.toNatClampNeg))), (0, .ref h), (1, .ref (ad 13)), (2, .ref (ad 45)), (4, .ref (ad 46))] → W p l e ((headSpec wsX9_goes ({ frames := 3, cells := 0, slots := 0, locals := 73 })).room) s m ([.ref h, .ref (ad 13), .ref (ad 45), .int a1, .ref (ad 46)] : List Value).toArray below meth c H locs 0 0 QQ (F0 m 304 ls []) := by
                  intro τ_9 hI_9 hf2_9 H locs ls hB_2 hP hD hS hl
                  have hB_2 : τ_9 = S_2 := hB_2
                  refine lv_iinc (v := (nI (k_2 + 1))) (lv' := [(7, .int (nI (k_2 + 1))), (6, .int (τ_1 22 ((((10 : Int32) * (τ_1 23 (a1.toNatClampNeg))) + (τ_1 24 (a1.toNatClampNeg))).toNatClampNeg))), (5, .int (τ_1 23 (a1.toNatClampNeg))), (0, .ref h), (1, .ref (ad 13)), (2, .ref (ad 45)), (4, .ref (ad 46))]) hx hb dX9_goes_304 hl (k := 0) rfl (by rw [show Int32.ofInt 1 = 1 from by decide]; exact nI_1 _) (by decide) rfl (fun ls hl => ?_)
                  refine lv_goto (tgt := 56) hx hb dX9_goes_307 (by decide) ?_
                  subst hB_2
                  exact ih (k_2 + 1) τ_9 (lpk_cast (congrFun hf2_9 0) (ge_next hk_2)) hI_9 _ _ _ hR hP hD hS (lv_sub hl [0, 1, 2, 3, 4, 5, 6] rfl)
                have hL_9 : ∀ (n k_9 : Nat) (τ_9 : St) (hk_9 : lpk (τ_9 6 0) k_9 n) (hI_9 : IR τ_9) (hf2_9 : τ_9 2 = τ_2 2) (H : Heap) (locs : List Loc) (ls : Array Slot), s_X9_goesA_c250 (iter (s_X9_goesA_l250 k_2) n k_9 τ_9) = S_2 → va_P D vwCl (WM ca h ad τ_9) H → va_D A (WM ca h ad τ_9) → va_S A s.heap H locs → lv_has ls 11 [(10, .int (nI k_9)), (7, .int (nI k_2)), (6, .int (τ_1 22 ((((10 : Int32) * (τ_1 23 (a1.toNatClampNeg))) + (τ_1 24 (a1.toNatClampNeg))).toNatClampNeg))), (5, .int (τ_1 23 (a1.toNatClampNeg))), (0, .ref h), (1, .ref (ad 13)), (2, .ref (ad 45)), (4, .ref (ad 46))] → W p l e ((headSpec wsX9_goes ({ frames := 3, cells := 0, slots := 0, locals := 73 })).room) s m ([.ref h, .ref (ad 13), .ref (ad 45), .int a1, .ref (ad 46)] : List Value).toArray below meth c H locs 0 0 QQ (F0 m 250 ls []) := by
                  intro n
                  induction n with
                  | zero =>
                    intro k_9 τ_9 hk_9 hI_9 hf2_9 H locs ls hB_2 hP hD hS hl
                    refine lv_iload hx hb dX9_goes_250 (lv_at hl 0 rfl) ?_
                    refine lv_aload_n hx hb dX9_goes_252 rfl (lv_at hl 4 rfl) ?_
                    refine va_get (D := D) (ci := 9) (v := .int (τ_9 6 0)) (C := RX9) (T := TX9) (N := 51) hx hb hts hu9 hown hK hP 0 wm_0 rfl 6 (by decide) (hts (.fieldLink RX9 164 "GrazeBookModel" "herds" "I") (List.mem_cons_of_mem _ mw_789)) (fun _ h9 => h9) rfl dX9_goes_253 ?_
                    refine lv_icmp_ge (tgt := 304) hx hb dX9_goes_256 (by decide) (fun _ => ?_) (fun c_10 => absurd (ge_end hk_9) c_10)
                    exact hE_9 τ_9 hI_9 hf2_9 _ _ _ hB_2 hP hD hS (lv_sub hl [1, 2, 3, 4, 5, 6, 7] rfl)
                  | succ n ih =>
                    intro k_9 τ_9 hk_9 hI_9 hf2_9 H locs ls hB_2 hP hD hS hl
                    obtain ⟨S_9, hB_9⟩ : ∃ s9, s_X9_goesA_l250 k_2 k_9 τ_9 = s9 := ⟨_, rfl⟩
                    have hB_2 : s_X9_goesA_c250 (iter (s_X9_goesA_l250 k_2) n (k_9 + 1) S_9) = S_2 := by rw [← hB_9]; exact hB_2
                    have hB_9 : (if (τ_9 45 k_9) = (nI k_2) then (if (τ_9 18 k_2) = (0 : Int32) then (put τ_9 43 k_9 ((τ_9 43 k_9) + (s_X9_partsOfHerd τ_9 (nI k_9)))) else (put τ_9 43 k_9 ((τ_9 43 k_9) + (0 : Int32)))) else (put τ_9 43 k_9 ((τ_9 43 k_9) + (0 : Int32)))) = S_9 := hB_9
                    refine lv_iload hx hb dX9_goes_250 (lv_at hl 0 rfl) ?_
                    refine lv_aload_n hx hb dX9_goes_252 rfl (lv_at hl 4 rfl) ?_
                    refine va_get (D := D) (ci := 9) (v := .int (τ_9 6 0)) (C := RX9) (T := TX9) (N := 51) hx hb hts hu9 hown hK hP 0 wm_0 rfl 6 (by decide) (hts (.fieldLink RX9 164 "GrazeBookModel" "herds" "I") (List.mem_cons_of_mem _ mw_789)) (fun _ h9 => h9) rfl dX9_goes_253 ?_
                    refine lv_icmp_ge (tgt := 304) hx hb dX9_goes_256 (by decide) (fun c_11 => absurd c_11 (ge_go hk_9)) (fun _ => ?_)
                    refine lv_aload_n hx hb dX9_goes_259 rfl (lv_at hl 4 rfl) ?_
                    refine va_get (D := D) (ci := 9) (v := .ref (ad 43)) (C := RX9) (T := TX9) (N := 51) hx hb hts hu9 hown hK hP 0 wm_0 rfl 43 (by decide) (hts (.fieldLink RX9 104 "GrazeBookModel" "hunger" "[I") (List.mem_cons_of_mem _ mw_826)) (fun _ h9 => h9) rfl dX9_goes_260 ?_
                    refine lv_iload hx hb dX9_goes_263 (lv_at hl 0 rfl) ?_
                    refine lv_dup2_11 hx hb dX9_goes_265 rfl rfl ?_
                    refine va_iald_k (k := k_9) (v := (τ_9 43 k_9)) hx hb hK hP 32 0 wm_a43 rfl (ix_cl hk_9) rfl (ix_loop (N := 20) hk_9 (ir_6 hI_9) (by decide) (by decide)) dX9_goes_266 ?_
                    refine lv_aload_n hx hb dX9_goes_267 rfl (lv_at hl 6 rfl) ?_
                    refine lv_iload hx hb dX9_goes_268 (lv_at hl 0 rfl) ?_
                    refine va_iald_k (k := k_9) (v := (τ_9 45 k_9)) hx hb hK hP 34 0 wm_a45 rfl (ix_cl hk_9) rfl (ix_loop (N := 20) hk_9 (ir_6 hI_9) (by decide) (by decide)) dX9_goes_270 ?_
                    refine lv_iload hx hb dX9_goes_271 (lv_at hl 1 rfl) ?_
                    refine lv_icmp_ne (tgt := 295) hx hb dX9_goes_273 (by decide) (fun c_12 => ?_) (fun c_12 => ?_)
                    · have hB_9 := (if_neg c_12).symm.trans hB_9
                      refine lv_iconst (v := (0 : Int32)) hx hb dX9_goes_295 (by decide) ?_
                      refine lv_iadd hx hb dX9_goes_296 ?_
                      refine va_iast_k (k := k_9) hx hb hK hP hD hS 32 0 wm_a43 rfl (ix_cl hk_9) (ix_loop (N := 20) hk_9 (ir_6 hI_9) (by decide) (by decide)) dX9_goes_297 (fun H locs hP hD hS => ?_)
                      rw [wm_s43] at hP hD
                      refine lv_iinc (v := (nI (k_9 + 1))) (lv' := [(10, .int (nI (k_9 + 1))), (7, .int (nI k_2)), (6, .int (τ_1 22 ((((10 : Int32) * (τ_1 23 (a1.toNatClampNeg))) + (τ_1 24 (a1.toNatClampNeg))).toNatClampNeg))), (5, .int (τ_1 23 (a1.toNatClampNeg))), (0, .ref h), (1, .ref (ad 13)), (2, .ref (ad 45)), (4, .ref (ad 46))]) hx hb dX9_goes_298 hl (k := 0) rfl (by rw [show Int32.ofInt 1 = 1 from by decide]; exact nI_1 _) (by decide) rfl (fun ls hl => ?_)
                      refine lv_goto (tgt := 250) hx hb dX9_goes_301 (by decide) ?_
                      subst hB_9
                      exact ih (k_9 + 1) (put τ_9 43 k_9 ((τ_9 43 k_9) + (0 : Int32))) (ge_next hk_9) hI_9 hf2_9 _ _ _ hB_2 hP hD hS (lv_sub hl [0, 1, 2, 3, 4, 5, 6, 7] rfl)
                    · have hB_9 := (if_pos c_12).symm.trans hB_9
                      refine lv_aload_n hx hb dX9_goes_276 rfl (lv_at hl 4 rfl) ?_
                      refine va_get (D := D) (ci := 9) (v := .ref (ad 18)) (C := RX9) (T := TX9) (N := 51) hx hb hts hu9 hown hK hP 0 wm_0 rfl 18 (by decide) (hts (.fieldLink RX9 28 "GrazeBookModel" "water" "[Z") (List.mem_cons_of_mem _ mw_801)) (fun _ h9 => h9) rfl dX9_goes_277 ?_
                      refine lv_iload hx hb dX9_goes_280 (lv_at hl 1 rfl) ?_
                      refine va_zald_k (k := k_2) (v := (τ_9 18 k_2)) hx hb hK hP 7 1 wm_a18 rfl (ix_cl hk_2) rfl (ix_loop (N := 6) hk_2 (ir_2 hI_2) (by decide) (by decide)) dX9_goes_282 ?_
                      refine lv_if_ne (tgt := 295) hx hb dX9_goes_283 (by decide) (fun c_13 => ?_) (fun c_13 => ?_)
                      · have hB_9 := (if_neg c_13).symm.trans hB_9
                        refine lv_iconst (v := (0 : Int32)) hx hb dX9_goes_295 (by decide) ?_
                        refine lv_iadd hx hb dX9_goes_296 ?_
                        refine va_iast_k (k := k_9) hx hb hK hP hD hS 32 0 wm_a43 rfl (ix_cl hk_9) (ix_loop (N := 20) hk_9 (ir_6 hI_9) (by decide) (by decide)) dX9_goes_297 (fun H locs hP hD hS => ?_)
                        rw [wm_s43] at hP hD
                        refine lv_iinc (v := (nI (k_9 + 1))) (lv' := [(10, .int (nI (k_9 + 1))), (7, .int (nI k_2)), (6, .int (τ_1 22 ((((10 : Int32) * (τ_1 23 (a1.toNatClampNeg))) + (τ_1 24 (a1.toNatClampNeg))).toNatClampNeg))), (5, .int (τ_1 23 (a1.toNatClampNeg))), (0, .ref h), (1, .ref (ad 13)), (2, .ref (ad 45)), (4, .ref (ad 46))]) hx hb dX9_goes_298 hl (k := 0) rfl (by rw [show Int32.ofInt 1 = 1 from by decide]; exact nI_1 _) (by decide) rfl (fun ls hl => ?_)
                        refine lv_goto (tgt := 250) hx hb dX9_goes_301 (by decide) ?_
                        subst hB_9
                        exact ih (k_9 + 1) (put τ_9 43 k_9 ((τ_9 43 k_9) + (0 : Int32))) (ge_next hk_9) hI_9 hf2_9 _ _ _ hB_2 hP hD hS (lv_sub hl [0, 1, 2, 3, 4, 5, 6, 7] rfl)
                      · have hB_9 := (if_pos c_13).symm.trans hB_9
                        refine lv_aload_n hx hb dX9_goes_286 rfl (lv_at hl 4 rfl) ?_
                        refine lv_iload hx hb dX9_goes_287 (lv_at hl 0 rfl) ?_
                        have hF := pw_free hD hS hA
                        refine va_calli (va_runV (As := [.int (nI k_9)]) (rest := [.int (τ_9 43 k_9), .int (nI k_9), .ref (ad 43)]) ⟨hx, hb, hml, hown, hts⟩ (k_X9_partsOfHerd l D ca h ad τ_9 (nI k_9) H.size hI_9 (ix_loop (N := 20) hk_9 (ir_6 hI_9) (by decide) (by decide)) _ rfl) (cwV 1 hts gX9_goes_X9_partsOfHerd rfl rfl rfl (by decide +kernel) ⟨Nat.le_of_ble_eq_true rfl, Nat.le_of_ble_eq_true rfl⟩) ⟨pw_blind, va_recv hK hP (ci := 9) (q0 := 0) rfl wm_0, pw_give hP hK hD⟩ rfl rfl hl.1 rfl (lv_room (Nat.le_of_ble_eq_true rfl)) dX9_goes_289 ⟨Nat.le_of_ble_eq_true rfl, Nat.le_of_ble_eq_true rfl⟩) hS (fun q _ h => hF q h) hF (fun r_14 u t H1 locs ht hvm hw hB hz1 hk1 hS => ?_)
                        subst hw
                        obtain ⟨hP, hD⟩ := pw_back hF ht hB
                        clear hB hk1 hz1 hF
                        generalize H1 = H at hP hS ⊢
                        refine lv_goto (tgt := 296) hx hb dX9_goes_292 (by decide) ?_
                        refine lv_iadd hx hb dX9_goes_296 ?_
                        refine va_iast_k (k := k_9) hx hb hK hP hD hS 32 0 wm_a43 rfl (ix_cl hk_9) (ix_loop (N := 20) hk_9 (ir_6 hI_9) (by decide) (by decide)) dX9_goes_297 (fun H locs hP hD hS => ?_)
                        rw [wm_s43] at hP hD
                        refine lv_iinc (v := (nI (k_9 + 1))) (lv' := [(10, .int (nI (k_9 + 1))), (7, .int (nI k_2)), (6, .int (τ_1 22 ((((10 : Int32) * (τ_1 23 (a1.toNatClampNeg))) + (τ_1 24 (a1.toNatClampNeg))).toNatClampNeg))), (5, .int (τ_1 23 (a1.toNatClampNeg))), (0, .ref h), (1, .ref (ad 13)), (2, .ref (ad 45)), (4, .ref (ad 46))]) hx hb dX9_goes_298 hl (k := 0) rfl (by rw [show Int32.ofInt 1 = 1 from by decide]; exact nI_1 _) (by decide) rfl (fun ls hl => ?_)
                        refine lv_goto (tgt := 250) hx hb dX9_goes_301 (by decide) ?_
                        subst hB_9
                        exact ih (k_9 + 1) (put τ_9 43 k_9 ((τ_9 43 k_9) + (s_X9_partsOfHerd τ_9 (nI k_9)))) (ge_next hk_9) hI_9 hf2_9 _ _ _ hB_2 hP hD hS (lv_sub hl [0, 1, 2, 3, 4, 5, 6, 7] rfl)
                exact hL_9 _ 0 τ_8 ⟨rfl, by decide⟩ hI_8 hf2_8 _ _ _ hB_2 hP hD hS (lv_sub hl [0, 1, 2, 3, 4, 5, 6, 7] rfl)
              refine lv_icmp_le (tgt := 247) hx hb dX9_goes_230 (by decide) (fun c_15 => ?_) (fun c_15 => ?_)
              · have hB_2 := (if_pos c_15).symm.trans hB_2
                exact hJ_8 (put (put τ_7 13 k_2 ((τ_7 13 k_2) - (if v8_5 < (τ_7 13 k_2) then v8_5 else (τ_7 13 k_2)))) 46 k_2 ((τ_7 46 k_2) + (if v8_5 < (τ_7 13 k_2) then v8_5 else (τ_7 13 k_2)))) (ir_put13 (σ := τ_7) hI_7 (eat_ok (ir_13 hI_7 k_2).1 (ir_13 hI_7 k_2).2.1 (ir_13 hI_7 k_2).2.2 ha_5.1)) hf2_7 _ _ _ hB_2 hP hD hS (lv_sub hl [2, 3, 4, 5, 6, 7, 8] rfl)
              · have hB_2 := (if_neg c_15).symm.trans hB_2
                refine lv_aload_n hx hb dX9_goes_233 rfl (lv_at hl 5 rfl) ?_
                refine lv_aload_n hx hb dX9_goes_234 rfl (lv_at hl 7 rfl) ?_
                refine lv_iload hx hb dX9_goes_235 (lv_at hl 2 rfl) ?_
                refine lv_iload hx hb dX9_goes_237 (lv_at hl 1 rfl) ?_
                refine lv_iload hx hb dX9_goes_239 (lv_at hl 1 rfl) ?_
                refine lv_iload hx hb dX9_goes_241 (lv_at hl 0 rfl) ?_
                refine lv_isub hx hb dX9_goes_243 ?_
                have hF := pw_free hD hS hA
                refine va_callv (va_runV (As := [.ref (ad 45), .int (nI k_2), .int v8_5, .int (v8_5 - (if v8_5 < (τ_7 13 k_2) then v8_5 else (τ_7 13 k_2)))]) (rest := []) ⟨hx, hb, hml, hown, hts⟩ (k_X9_shares l D ca h ad (put (put τ_7 13 k_2 ((τ_7 13 k_2) - (if v8_5 < (τ_7 13 k_2) then v8_5 else (τ_7 13 k_2)))) 46 k_2 ((τ_7 46 k_2) + (if v8_5 < (τ_7 13 k_2) then v8_5 else (τ_7 13 k_2)))) (nI k_2) v8_5 (v8_5 - (if v8_5 < (τ_7 13 k_2) then v8_5 else (τ_7 13 k_2))) H.size (ir_put13 (σ := τ_7) hI_7 (eat_ok (ir_13 hI_7 k_2).1 (ir_13 hI_7 k_2).2.1 (ir_13 hI_7 k_2).2.2 ha_5.1)) (nz_all (ir_13 hI_7 k_2).1 c_15) _ rfl) (cwV 4 hts gX9_goes_X9_shares rfl rfl rfl (by decide +kernel) ⟨Nat.le_of_ble_eq_true rfl, Nat.le_of_ble_eq_true rfl⟩) ⟨pw_blind, va_recv hK hP (ci := 9) (q0 := 0) rfl wm_0, pw_give hP hK hD⟩ rfl rfl hl.1 rfl (lv_room (Nat.le_of_ble_eq_true rfl)) dX9_goes_244 ⟨Nat.le_of_ble_eq_true rfl, Nat.le_of_ble_eq_true rfl⟩) hS (fun q _ h => hF q h) hF (fun u t H1 locs ht hvm hw hB hz1 hk1 hS => ?_)
                obtain ⟨hB, hI_17⟩ := hB
                obtain ⟨hP, hD⟩ := pw_back hF ht hB
                clear hB hk1 hz1 hF
                generalize H1 = H at hP hS ⊢
                exact hJ_8 (s_X9_shares (put (put τ_7 13 k_2 ((τ_7 13 k_2) - (if v8_5 < (τ_7 13 k_2) then v8_5 else (τ_7 13 k_2)))) 46 k_2 ((τ_7 46 k_2) + (if v8_5 < (τ_7 13 k_2) then v8_5 else (τ_7 13 k_2)))) (nI k_2) v8_5 (v8_5 - (if v8_5 < (τ_7 13 k_2) then v8_5 else (τ_7 13 k_2)))) hI_17 ((fr_s_X9_shares (put (put τ_7 13 k_2 ((τ_7 13 k_2) - (if v8_5 < (τ_7 13 k_2) then v8_5 else (τ_7 13 k_2)))) 46 k_2 ((τ_7 46 k_2) + (if v8_5 < (τ_7 13 k_2) then v8_5 else (τ_7 13 k_2)))) (nI k_2) v8_5 (v8_5 - (if v8_5 < (τ_7 13 k_2) then v8_5 else (τ_7 13 k_2))) (f := 2) (by decide)).trans hf2_7) _ _ _ hB_2 hP hD hS (lv_sub hl [2, 3, 4, 5, 6, 7, 8] rfl)
            refine lv_icmp_ge (tgt := 196) hx hb dX9_goes_151 (by decide) (fun c_18 => ?_) (fun c_18 => ?_)
            · have hB_2 := (if_pos c_18).symm.trans hB_2
              exact hJ_7 τ_6 hI_6 hf2_6 _ _ _ hB_2 hP hD hS (lv_sub hl [0, 1, 2, 3, 4, 5, 6, 7] rfl)
            · have hB_2 := (if_neg c_18).symm.trans hB_2
              refine lv_aload_n hx hb dX9_goes_154 rfl (lv_at hl 5 rfl) ?_
              refine lv_iload hx hb dX9_goes_155 (lv_at hl 1 rfl) ?_
              refine lv_aload_n hx hb dX9_goes_157 rfl (lv_at hl 4 rfl) ?_
              refine va_get (D := D) (ci := 9) (v := .ref (ad 14)) (C := RX9) (T := TX9) (N := 51) hx hb hts hu9 hown hK hP 0 wm_0 rfl 14 (by decide) (hts (.fieldLink RX9 16 "GrazeBookModel" "full" "[I") (List.mem_cons_of_mem _ mw_797)) (fun _ h9 => h9) rfl dX9_goes_158 ?_
              refine lv_iload hx hb dX9_goes_161 (lv_at hl 1 rfl) ?_
              refine va_iald_k (k := k_2) (v := (τ_6 14 k_2)) hx hb hK hP 3 0 wm_a14 rfl (ix_cl hk_2) rfl (ix_loop (N := 6) hk_2 (ir_2 hI_2) (by decide) (by decide)) dX9_goes_163 ?_
              refine lv_i2l (v := ((τ_6 14 k_2).toInt64)) hx hb dX9_goes_164 rfl ?_
              refine lv_aload_n hx hb dX9_goes_165 rfl (lv_at hl 5 rfl) ?_
              refine lv_iload hx hb dX9_goes_166 (lv_at hl 1 rfl) ?_
              refine va_iald_k (k := k_2) (v := (τ_6 13 k_2)) hx hb hK hP 2 0 wm_a13 rfl (ix_cl hk_2) rfl (ix_loop (N := 6) hk_2 (ir_2 hI_2) (by decide) (by decide)) dX9_goes_168 ?_
              refine lv_i2l (v := ((τ_6 13 k_2).toInt64)) hx hb dX9_goes_169 rfl ?_
              refine lv_lconst (v := 1) hx hb dX9_goes_170 (by decide) ?_
              refine lv_iload hx hb dX9_goes_171 (lv_at hl 2 rfl) ?_
              refine lv_i2l (v := ((τ_1 22 ((((10 : Int32) * (τ_1 23 (a1.toNatClampNeg))) + (τ_1 24 (a1.toNatClampNeg))).toNatClampNeg)).toInt64)) hx hb dX9_goes_173 rfl ?_
              refine lv_aload_n hx hb dX9_goes_174 rfl (lv_at hl 4 rfl) ?_
              refine va_get (D := D) (ci := 9) (v := .ref (ad 14)) (C := RX9) (T := TX9) (N := 51) hx hb hts hu9 hown hK hP 0 wm_0 rfl 14 (by decide) (hts (.fieldLink RX9 16 "GrazeBookModel" "full" "[I") (List.mem_cons_of_mem _ mw_797)) (fun _ h9 => h9) rfl dX9_goes_175 ?_
              refine lv_iload hx hb dX9_goes_178 (lv_at hl 1 rfl) ?_
              refine va_iald_k (k := k_2) (v := (τ_6 14 k_2)) hx hb hK hP 3 0 wm_a14 rfl (ix_cl hk_2) rfl (ix_loop (N := 6) hk_2 (ir_2 hI_2) (by decide) (by decide)) dX9_goes_180 ?_
              refine lv_i2l (v := ((τ_6 14 k_2).toInt64)) hx hb dX9_goes_181 rfl ?_
              refine lv_lmul hx hb dX9_goes_182 ?_
              refine lv_ldc2 (v := 1000) hx hb hown (hts (.constantLong RX9 194 (1000)) (List.mem_cons_of_mem _ mw_1059)) dX9_goes_183 ?_
              refine lv_ldiv hx hb dX9_goes_186 (by decide) ?_
              refine va_mmax_long hx hb (hml.trans hl.1.symm) hown (hts (.methodLink RX9 196 Lib.MathLoose.max_long.x) (List.mem_cons_of_mem _ mw_1060)) (hts (.static Lib.MathLoose.max_long.x) (List.mem_cons_of_mem _ mw_1061)) (hts (.initialized "java/lang/Math") (List.mem_cons_of_mem _ mw_68)) (hts (.code Lib.MathLoose.max_long.x Lib.MathLoose.max_long.code 4 (some .long)) (List.mem_cons_of_mem _ mw_1062)) (Nat.le_of_ble_eq_true rfl) (Nat.le_of_ble_eq_true rfl) (Nat.le_of_ble_eq_true rfl) (Nat.le_of_ble_eq_true rfl) dX9_goes_187 ?_
              refine lv_ladd hx hb dX9_goes_190 ?_
              refine va_mmin_long hx hb (hml.trans hl.1.symm) hown (hts (.methodLink RX9 199 Lib.MathLoose.min_long.x) (List.mem_cons_of_mem _ mw_1063)) (hts (.static Lib.MathLoose.min_long.x) (List.mem_cons_of_mem _ mw_1064)) (hts (.initialized "java/lang/Math") (List.mem_cons_of_mem _ mw_68)) (hts (.code Lib.MathLoose.min_long.x Lib.MathLoose.min_long.code 4 (some .long)) (List.mem_cons_of_mem _ mw_1065)) (Nat.le_of_ble_eq_true rfl) (Nat.le_of_ble_eq_true rfl) (Nat.le_of_ble_eq_true rfl) (Nat.le_of_ble_eq_true rfl) dX9_goes_191 ?_
              refine lv_l2i (v := ((if (((τ_6 13 k_2).toInt64) + (if ((((τ_1 22 ((((10 : Int32) * (τ_1 23 (a1.toNatClampNeg))) + (τ_1 24 (a1.toNatClampNeg))).toNatClampNeg)).toInt64) * ((τ_6 14 k_2).toInt64)) / (1000 : Int64)) < (1 : Int64) then (1 : Int64) else ((((τ_1 22 ((((10 : Int32) * (τ_1 23 (a1.toNatClampNeg))) + (τ_1 24 (a1.toNatClampNeg))).toNatClampNeg)).toInt64) * ((τ_6 14 k_2).toInt64)) / (1000 : Int64)))) < ((τ_6 14 k_2).toInt64) then (((τ_6 13 k_2).toInt64) + (if ((((τ_1 22 ((((10 : Int32) * (τ_1 23 (a1.toNatClampNeg))) + (τ_1 24 (a1.toNatClampNeg))).toNatClampNeg)).toInt64) * ((τ_6 14 k_2).toInt64)) / (1000 : Int64)) < (1 : Int64) then (1 : Int64) else ((((τ_1 22 ((((10 : Int32) * (τ_1 23 (a1.toNatClampNeg))) + (τ_1 24 (a1.toNatClampNeg))).toNatClampNeg)).toInt64) * ((τ_6 14 k_2).toInt64)) / (1000 : Int64)))) else ((τ_6 14 k_2).toInt64)).toInt32)) hx hb dX9_goes_194 rfl ?_
              refine va_iast_k (k := k_2) hx hb hK hP hD hS 2 0 wm_a13 rfl (ix_cl hk_2) (ix_loop (N := 6) hk_2 (ir_2 hI_2) (by decide) (by decide)) dX9_goes_195 (fun H locs hP hD hS => ?_)
              rw [wm_s13] at hP hD
              exact hJ_7 (put τ_6 13 k_2 ((if (((τ_6 13 k_2).toInt64) + (if ((((τ_1 22 ((((10 : Int32) * (τ_1 23 (a1.toNatClampNeg))) + (τ_1 24 (a1.toNatClampNeg))).toNatClampNeg)).toInt64) * ((τ_6 14 k_2).toInt64)) / (1000 : Int64)) < (1 : Int64) then (1 : Int64) else ((((τ_1 22 ((((10 : Int32) * (τ_1 23 (a1.toNatClampNeg))) + (τ_1 24 (a1.toNatClampNeg))).toNatClampNeg)).toInt64) * ((τ_6 14 k_2).toInt64)) / (1000 : Int64)))) < ((τ_6 14 k_2).toInt64) then (((τ_6 13 k_2).toInt64) + (if ((((τ_1 22 ((((10 : Int32) * (τ_1 23 (a1.toNatClampNeg))) + (τ_1 24 (a1.toNatClampNeg))).toNatClampNeg)).toInt64) * ((τ_6 14 k_2).toInt64)) / (1000 : Int64)) < (1 : Int64) then (1 : Int64) else ((((τ_1 22 ((((10 : Int32) * (τ_1 23 (a1.toNatClampNeg))) + (τ_1 24 (a1.toNatClampNeg))).toNatClampNeg)).toInt64) * ((τ_6 14 k_2).toInt64)) / (1000 : Int64)))) else ((τ_6 14 k_2).toInt64)).toInt32)) (ir_put13 (σ := τ_6) hI_6 (grow_ok (ir_13 hI_6 k_2).1 c_18 (ir_13 hI_6 k_2).2.2 (one_ok _) (one_le _))) hf2_6 _ _ _ hB_2 hP hD hS (lv_sub hl [0, 1, 2, 3, 4, 5, 6, 7] rfl)
          refine lv_icmp_lt (tgt := 140) hx hb dX9_goes_114 (by decide) (fun c_19 => ?_) (fun c_19 => ?_)
          · have hB_2 := (if_pos c_19).symm.trans hB_2
            exact hJ_6 τ_2 hI_2 rfl _ _ _ hB_2 hP hD hS (lv_sub hl [0, 1, 2, 3, 4, 5, 6, 7] rfl)
          · have hB_2 := (if_neg c_19).symm.trans hB_2
            refine lv_iload hx hb dX9_goes_117 (lv_at hl 0 rfl) ?_
            refine lv_if_le (tgt := 140) hx hb dX9_goes_119 (by decide) (fun c_20 => ?_) (fun c_20 => ?_)
            · have hB_2 := (if_pos c_20).symm.trans hB_2
              exact hJ_6 τ_2 hI_2 rfl _ _ _ hB_2 hP hD hS (lv_sub hl [0, 1, 2, 3, 4, 5, 6, 7] rfl)
            · have hB_2 := (if_neg c_20).symm.trans hB_2
              refine lv_aload_n hx hb dX9_goes_122 rfl (lv_at hl 5 rfl) ?_
              refine lv_iload hx hb dX9_goes_123 (lv_at hl 1 rfl) ?_
              refine lv_iconst (v := (0 : Int32)) hx hb dX9_goes_125 (by decide) ?_
              refine lv_aload_n hx hb dX9_goes_126 rfl (lv_at hl 5 rfl) ?_
              refine lv_iload hx hb dX9_goes_127 (lv_at hl 1 rfl) ?_
              refine va_iald_k (k := k_2) (v := (τ_2 13 k_2)) hx hb hK hP 2 0 wm_a13 rfl (ix_cl hk_2) rfl (ix_loop (N := 6) hk_2 (ir_2 hI_2) (by decide) (by decide)) dX9_goes_129 ?_
              refine lv_iload hx hb dX9_goes_130 (lv_at hl 0 rfl) ?_
              refine lv_bipush (v := (100 : Int32)) hx hb dX9_goes_132 (by decide) ?_
              refine lv_idiv hx hb dX9_goes_134 (by decide) ?_
              refine lv_isub hx hb dX9_goes_135 ?_
              refine va_mmax hx hb (hml.trans hl.1.symm) hown (hts (.methodLink RX9 179 Lib.Math.max.name) (List.mem_cons_of_mem _ mw_1026)) (hts (.static Lib.Math.max.name) (List.mem_cons_of_mem _ mw_520)) (hts (.initialized "java/lang/Math") (List.mem_cons_of_mem _ mw_68)) (hts (.code Lib.Math.max.name Lib.Math.max.code 2 (some .int)) (List.mem_cons_of_mem _ mw_521)) (Nat.le_of_ble_eq_true rfl) (Nat.le_of_ble_eq_true rfl) (Nat.le_of_ble_eq_true rfl) (Nat.le_of_ble_eq_true rfl) dX9_goes_136 ?_
              refine va_iast_k (k := k_2) hx hb hK hP hD hS 2 0 wm_a13 rfl (ix_cl hk_2) (ix_loop (N := 6) hk_2 (ir_2 hI_2) (by decide) (by decide)) dX9_goes_139 (fun H locs hP hD hS => ?_)
              rw [wm_s13] at hP hD
              exact hJ_6 (put τ_2 13 k_2 (if (0 : Int32) < ((τ_2 13 k_2) - (v8_5 / (100 : Int32))) then ((τ_2 13 k_2) - (v8_5 / (100 : Int32))) else (0 : Int32))) (ir_put13 (σ := τ_2) hI_2 (tread_ok (ir_13 hI_2 k_2).1 (ir_13 hI_2 k_2).2.1 (ir_13 hI_2 k_2).2.2 c_20)) rfl _ _ _ hB_2 hP hD hS (lv_sub hl [0, 1, 2, 3, 4, 5, 6, 7] rfl)
        have hL_5 : ∀ (n k_5 : Nat) (v8_5 : Int32) (hk_5 : lpk (τ_2 6 0) k_5 n) (ha_5 : 0 ≤ v8_5.toInt ∧ v8_5.toInt ≤ 4500 * (k_5 : Int) ∧ k_5 ≤ 20) (H : Heap) (locs : List Loc) (ls : Array Slot), s_X9_goesA_c71 a1 τ_1 k_2 τ_2 (iter (s_X9_goesA_l71 k_2 τ_2) n k_5 v8_5) = S_2 → va_P D vwCl (WM ca h ad τ_2) H → va_D A (WM ca h ad τ_2) → va_S A s.heap H locs → lv_has ls 11 [(9, .int (nI k_5)), (8, .int v8_5), (7, .int (nI k_2)), (6, .int (τ_1 22 ((((10 : Int32) * (τ_1 23 (a1.toNatClampNeg))) + (τ_1 24 (a1.toNatClampNeg))).toNatClampNeg))), (5, .int (τ_1 23 (a1.toNatClampNeg))), (0, .ref h), (1, .ref (ad 13)), (2, .ref (ad 45)), (4, .ref (ad 46))] → W p l e ((headSpec wsX9_goes ({ frames := 3, cells := 0, slots := 0, locals := 73 })).room) s m ([.ref h, .ref (ad 13), .ref (ad 45), .int a1, .ref (ad 46)] : List Value).toArray below meth c H locs 0 0 QQ (F0 m 71 ls []) := by
          intro n
          induction n with
          | zero =>
            intro k_5 v8_5 hk_5 ha_5 H locs ls hB_2 hP hD hS hl
            refine lv_iload hx hb dX9_goes_71 (lv_at hl 0 rfl) ?_
            refine lv_aload_n hx hb dX9_goes_73 rfl (lv_at hl 5 rfl) ?_
            refine va_get (D := D) (ci := 9) (v := .int (τ_2 6 0)) (C := RX9) (T := TX9) (N := 51) hx hb hts hu9 hown hK hP 0 wm_0 rfl 6 (by decide) (hts (.fieldLink RX9 164 "GrazeBookModel" "herds" "I") (List.mem_cons_of_mem _ mw_789)) (fun _ h9 => h9) rfl dX9_goes_74 ?_
            refine lv_icmp_ge (tgt := 110) hx hb dX9_goes_77 (by decide) (fun _ => ?_) (fun c_21 => absurd (ge_end hk_5) c_21)
            exact hE_5 v8_5 (⟨ha_5.1, by have := ha_5; omega⟩) _ _ _ hB_2 hP hD hS (lv_sub hl [1, 2, 3, 4, 5, 6, 7, 8] rfl)
          | succ n ih =>
            intro k_5 v8_5 hk_5 ha_5 H locs ls hB_2 hP hD hS hl
            obtain ⟨S_5, hB_5⟩ : ∃ s9, s_X9_goesA_l71 k_2 τ_2 k_5 v8_5 = s9 := ⟨_, rfl⟩
            have hB_2 : s_X9_goesA_c71 a1 τ_1 k_2 τ_2 (iter (s_X9_goesA_l71 k_2 τ_2) n (k_5 + 1) S_5) = S_2 := by rw [← hB_5]; exact hB_2
            have hB_5 : (if (τ_2 45 k_5) = (nI k_2) then (v8_5 + (s_X9_partsOfHerd τ_2 (nI k_5))) else (v8_5 + (0 : Int32))) = S_5 := hB_5
            refine lv_iload hx hb dX9_goes_71 (lv_at hl 0 rfl) ?_
            refine lv_aload_n hx hb dX9_goes_73 rfl (lv_at hl 5 rfl) ?_
            refine va_get (D := D) (ci := 9) (v := .int (τ_2 6 0)) (C := RX9) (T := TX9) (N := 51) hx hb hts hu9 hown hK hP 0 wm_0 rfl 6 (by decide) (hts (.fieldLink RX9 164 "GrazeBookModel" "herds" "I") (List.mem_cons_of_mem _ mw_789)) (fun _ h9 => h9) rfl dX9_goes_74 ?_
            refine lv_icmp_ge (tgt := 110) hx hb dX9_goes_77 (by decide) (fun c_22 => absurd c_22 (ge_go hk_5)) (fun _ => ?_)
            refine lv_iload hx hb dX9_goes_80 (lv_at hl 1 rfl) ?_
            refine lv_aload_n hx hb dX9_goes_82 rfl (lv_at hl 7 rfl) ?_
            refine lv_iload hx hb dX9_goes_83 (lv_at hl 0 rfl) ?_
            refine va_iald_k (k := k_5) (v := (τ_2 45 k_5)) hx hb hK hP 34 0 wm_a45 rfl (ix_cl hk_5) rfl (ix_loop (N := 20) hk_5 (ir_6 hI_2) (by decide) (by decide)) dX9_goes_85 ?_
            refine lv_iload hx hb dX9_goes_86 (lv_at hl 2 rfl) ?_
            refine lv_icmp_ne (tgt := 100) hx hb dX9_goes_88 (by decide) (fun c_23 => ?_) (fun c_23 => ?_)
            · have hB_5 := (if_neg c_23).symm.trans hB_5
              refine lv_iconst (v := (0 : Int32)) hx hb dX9_goes_100 (by decide) ?_
              refine lv_iadd hx hb dX9_goes_101 ?_
              refine lv_istore (lv' := [(8, .int (v8_5 + (0 : Int32))), (9, .int (nI k_5)), (7, .int (nI k_2)), (6, .int (τ_1 22 ((((10 : Int32) * (τ_1 23 (a1.toNatClampNeg))) + (τ_1 24 (a1.toNatClampNeg))).toNatClampNeg))), (5, .int (τ_1 23 (a1.toNatClampNeg))), (0, .ref h), (1, .ref (ad 13)), (2, .ref (ad 45)), (4, .ref (ad 46))]) hx hb dX9_goes_102 hl (by decide) rfl (fun ls hl => ?_)
              refine lv_iinc (v := (nI (k_5 + 1))) (lv' := [(9, .int (nI (k_5 + 1))), (8, .int (v8_5 + (0 : Int32))), (7, .int (nI k_2)), (6, .int (τ_1 22 ((((10 : Int32) * (τ_1 23 (a1.toNatClampNeg))) + (τ_1 24 (a1.toNatClampNeg))).toNatClampNeg))), (5, .int (τ_1 23 (a1.toNatClampNeg))), (0, .ref h), (1, .ref (ad 13)), (2, .ref (ad 45)), (4, .ref (ad 46))]) hx hb dX9_goes_104 hl (k := 1) rfl (by rw [show Int32.ofInt 1 = 1 from by decide]; exact nI_1 _) (by decide) rfl (fun ls hl => ?_)
              refine lv_goto (tgt := 71) hx hb dX9_goes_107 (by decide) ?_
              subst hB_5
              exact ih (k_5 + 1) (v8_5 + (0 : Int32)) (ge_next hk_5) (all_ok ha_5 (show 0 ≤ (0 : Int32).toInt ∧ (0 : Int32).toInt ≤ 4500 by decide) (k_lt hk_5 (ir_6 hI_2))) _ _ _ hB_2 hP hD hS (lv_sub hl [0, 1, 2, 3, 4, 5, 6, 7, 8] rfl)
            · have hB_5 := (if_pos c_23).symm.trans hB_5
              refine lv_aload_n hx hb dX9_goes_91 rfl (lv_at hl 5 rfl) ?_
              refine lv_iload hx hb dX9_goes_92 (lv_at hl 0 rfl) ?_
              have hF := pw_free hD hS hA
              refine va_calli (va_runV (As := [.int (nI k_5)]) (rest := [.int v8_5]) ⟨hx, hb, hml, hown, hts⟩ (k_X9_partsOfHerd l D ca h ad τ_2 (nI k_5) H.size hI_2 (ix_loop (N := 20) hk_5 (ir_6 hI_2) (by decide) (by decide)) _ rfl) (cwV 1 hts gX9_goes_X9_partsOfHerd rfl rfl rfl (by decide +kernel) ⟨Nat.le_of_ble_eq_true rfl, Nat.le_of_ble_eq_true rfl⟩) ⟨pw_blind, va_recv hK hP (ci := 9) (q0 := 0) rfl wm_0, pw_give hP hK hD⟩ rfl rfl hl.1 rfl (lv_room (Nat.le_of_ble_eq_true rfl)) dX9_goes_94 ⟨Nat.le_of_ble_eq_true rfl, Nat.le_of_ble_eq_true rfl⟩) hS (fun q _ h => hF q h) hF (fun r_24 u t H1 locs ht hvm hw hB hz1 hk1 hS => ?_)
              subst hw
              obtain ⟨hP, hD⟩ := pw_back hF ht hB
              clear hB hk1 hz1 hF
              generalize H1 = H at hP hS ⊢
              refine lv_goto (tgt := 101) hx hb dX9_goes_97 (by decide) ?_
              refine lv_iadd hx hb dX9_goes_101 ?_
              refine lv_istore (lv' := [(8, .int (v8_5 + (s_X9_partsOfHerd τ_2 (nI k_5)))), (9, .int (nI k_5)), (7, .int (nI k_2)), (6, .int (τ_1 22 ((((10 : Int32) * (τ_1 23 (a1.toNatClampNeg))) + (τ_1 24 (a1.toNatClampNeg))).toNatClampNeg))), (5, .int (τ_1 23 (a1.toNatClampNeg))), (0, .ref h), (1, .ref (ad 13)), (2, .ref (ad 45)), (4, .ref (ad 46))]) hx hb dX9_goes_102 hl (by decide) rfl (fun ls hl => ?_)
              refine lv_iinc (v := (nI (k_5 + 1))) (lv' := [(9, .int (nI (k_5 + 1))), (8, .int (v8_5 + (s_X9_partsOfHerd τ_2 (nI k_5)))), (7, .int (nI k_2)), (6, .int (τ_1 22 ((((10 : Int32) * (τ_1 23 (a1.toNatClampNeg))) + (τ_1 24 (a1.toNatClampNeg))).toNatClampNeg))), (5, .int (τ_1 23 (a1.toNatClampNeg))), (0, .ref h), (1, .ref (ad 13)), (2, .ref (ad 45)), (4, .ref (ad 46))]) hx hb dX9_goes_104 hl (k := 1) rfl (by rw [show Int32.ofInt 1 = 1 from by decide]; exact nI_1 _) (by decide) rfl (fun ls hl => ?_)
              refine lv_goto (tgt := 71) hx hb dX9_goes_107 (by decide) ?_
              subst hB_5
              exact ih (k_5 + 1) (v8_5 + (s_X9_partsOfHerd τ_2 (nI k_5))) (ge_next hk_5) (all_ok ha_5 (ph_ok hI_2 _) (k_lt hk_5 (ir_6 hI_2))) _ _ _ hB_2 hP hD hS (lv_sub hl [0, 1, 2, 3, 4, 5, 6, 7, 8] rfl)
        exact hL_5 _ 0 (0 : Int32) ⟨rfl, by decide⟩ (⟨by decide, by decide, by decide⟩) _ _ _ hB_2 hP hD hS (lv_sub hl [0, 1, 2, 3, 4, 5, 6, 7, 8] rfl)
    exact hL_2 _ 0 τ_1 ⟨rfl, by decide⟩ hI_1 _ _ _ hR hP hD hS (lv_sub hl [0, 1, 2, 3, 4, 5, 7] rfl)
  have hL_1 : ∀ (n k_1 : Nat) (τ_1 : St) (hk_1 : lpk (τ_1 6 0) k_1 n) (hI_1 : IR τ_1) (H : Heap) (locs : List Loc) (ls : Array Slot), s_X9_goesA_c3 a1 (iter s_X9_goesA_l3 n k_1 τ_1) = R → va_P D vwCl (WM ca h ad τ_1) H → va_D A (WM ca h ad τ_1) → va_S A s.heap H locs → lv_has ls 11 [(5, .int (nI k_1)), (0, .ref h), (1, .ref (ad 13)), (2, .ref (ad 45)), (3, .int a1), (4, .ref (ad 46))] → W p l e ((headSpec wsX9_goes ({ frames := 3, cells := 0, slots := 0, locals := 73 })).room) s m ([.ref h, .ref (ad 13), .ref (ad 45), .int a1, .ref (ad 46)] : List Value).toArray below meth c H locs 0 0 QQ (F0 m 3 ls []) := by
    intro n
    induction n with
    | zero =>
      intro k_1 τ_1 hk_1 hI_1 H locs ls hR hP hD hS hl
      refine lv_iload hx hb dX9_goes_3 (lv_at hl 0 rfl) ?_
      refine lv_aload_n hx hb dX9_goes_5 rfl (lv_at hl 1 rfl) ?_
      refine va_get (D := D) (ci := 9) (v := .int (τ_1 6 0)) (C := RX9) (T := TX9) (N := 51) hx hb hts hu9 hown hK hP 0 wm_0 rfl 6 (by decide) (hts (.fieldLink RX9 164 "GrazeBookModel" "herds" "I") (List.mem_cons_of_mem _ mw_789)) (fun _ h9 => h9) rfl dX9_goes_6 ?_
      refine lv_icmp_ge (tgt := 26) hx hb dX9_goes_9 (by decide) (fun _ => ?_) (fun c_25 => absurd (ge_end hk_1) c_25)
      exact hE_1 τ_1 hI_1 _ _ _ hR hP hD hS (lv_sub hl [1, 2, 3, 4, 5] rfl)
    | succ n ih =>
      intro k_1 τ_1 hk_1 hI_1 H locs ls hR hP hD hS hl
      obtain ⟨S_1, hB_1⟩ : ∃ s9, s_X9_goesA_l3 k_1 τ_1 = s9 := ⟨_, rfl⟩
      have hR : s_X9_goesA_c3 a1 (iter s_X9_goesA_l3 n (k_1 + 1) S_1) = R := by rw [← hB_1]; exact hR
      have hB_1 : (put τ_1 43 k_1 (0 : Int32)) = S_1 := hB_1
      refine lv_iload hx hb dX9_goes_3 (lv_at hl 0 rfl) ?_
      refine lv_aload_n hx hb dX9_goes_5 rfl (lv_at hl 1 rfl) ?_
      refine va_get (D := D) (ci := 9) (v := .int (τ_1 6 0)) (C := RX9) (T := TX9) (N := 51) hx hb hts hu9 hown hK hP 0 wm_0 rfl 6 (by decide) (hts (.fieldLink RX9 164 "GrazeBookModel" "herds" "I") (List.mem_cons_of_mem _ mw_789)) (fun _ h9 => h9) rfl dX9_goes_6 ?_
      refine lv_icmp_ge (tgt := 26) hx hb dX9_goes_9 (by decide) (fun c_26 => absurd c_26 (ge_go hk_1)) (fun _ => ?_)
      refine lv_aload_n hx hb dX9_goes_12 rfl (lv_at hl 1 rfl) ?_
      refine va_get (D := D) (ci := 9) (v := .ref (ad 43)) (C := RX9) (T := TX9) (N := 51) hx hb hts hu9 hown hK hP 0 wm_0 rfl 43 (by decide) (hts (.fieldLink RX9 104 "GrazeBookModel" "hunger" "[I") (List.mem_cons_of_mem _ mw_826)) (fun _ h9 => h9) rfl dX9_goes_13 ?_
      refine lv_iload hx hb dX9_goes_16 (lv_at hl 0 rfl) ?_
      refine lv_iconst (v := (0 : Int32)) hx hb dX9_goes_18 (by decide) ?_
      refine va_iast_k (k := k_1) hx hb hK hP hD hS 32 0 wm_a43 rfl (ix_cl hk_1) (ix_loop (N := 20) hk_1 (ir_6 hI_1) (by decide) (by decide)) dX9_goes_19 (fun H locs hP hD hS => ?_)
      rw [wm_s43] at hP hD
      refine lv_iinc (v := (nI (k_1 + 1))) (lv' := [(5, .int (nI (k_1 + 1))), (0, .ref h), (1, .ref (ad 13)), (2, .ref (ad 45)), (3, .int a1), (4, .ref (ad 46))]) hx hb dX9_goes_20 hl (k := 0) rfl (by rw [show Int32.ofInt 1 = 1 from by decide]; exact nI_1 _) (by decide) rfl (fun ls hl => ?_)
      refine lv_goto (tgt := 3) hx hb dX9_goes_23 (by decide) ?_
      subst hB_1
      exact ih (k_1 + 1) (put τ_1 43 k_1 (0 : Int32)) (ge_next hk_1) hI_1 _ _ _ hR hP hD hS (lv_sub hl [0, 1, 2, 3, 4, 5] rfl)
  exact hL_1 _ 0 σ ⟨rfl, by decide⟩ hI _ _ _ hR hP hD hS (lv_sub hl [0, 1, 2, 3, 4, 5] rfl)

def s_X9_goesB_c56  : St → St := fun x9 => match x9 with
  | τ_2 => τ_2
def s_X9_goesB_c250  : St → St := fun x9 => match x9 with
  | τ_9 => τ_9
def s_X9_goesB_l250 (k_2 : Nat) (k_9 : Nat) : St → St := fun x9 => match x9 with
  | τ_9 => (if (τ_9 45 k_9) = (nI k_2) then (if (τ_9 18 k_2) = (0 : Int32) then (put τ_9 43 k_9 ((τ_9 43 k_9) + (s_X9_partsOfHerd τ_9 (nI k_9)))) else (put τ_9 43 k_9 ((τ_9 43 k_9) + (0 : Int32)))) else (put τ_9 43 k_9 ((τ_9 43 k_9) + (0 : Int32))))
def s_X9_goesB_j247 (k_2 : Nat) (τ_8 : St) : St := (s_X9_goesB_c250 (iter (s_X9_goesB_l250 k_2) ((τ_8 6 0).toNatClampNeg - 0) 0 τ_8))
def s_X9_goesB_j196 (k_2 : Nat) (v8_5 : Int32) (τ_7 : St) : St := (if v8_5 ≤ (if v8_5 < (τ_7 44 k_2) then v8_5 else (τ_7 44 k_2)) then (s_X9_goesB_j247 k_2 (put (put τ_7 44 k_2 ((τ_7 44 k_2) - (if v8_5 < (τ_7 44 k_2) then v8_5 else (τ_7 44 k_2)))) 46 k_2 ((τ_7 46 k_2) + (if v8_5 < (τ_7 44 k_2) then v8_5 else (τ_7 44 k_2))))) else (s_X9_goesB_j247 k_2 (s_X9_shares (put (put τ_7 44 k_2 ((τ_7 44 k_2) - (if v8_5 < (τ_7 44 k_2) then v8_5 else (τ_7 44 k_2)))) 46 k_2 ((τ_7 46 k_2) + (if v8_5 < (τ_7 44 k_2) then v8_5 else (τ_7 44 k_2)))) (nI k_2) v8_5 (v8_5 - (if v8_5 < (τ_7 44 k_2) then v8_5 else (τ_7 44 k_2))))))
def s_X9_goesB_j140 (a1 : Int32) (τ_1 : St) (k_2 : Nat) (v8_5 : Int32) (τ_6 : St) : St := (if (τ_6 14 k_2) ≤ (τ_6 44 k_2) then (s_X9_goesB_j196 k_2 v8_5 τ_6) else (s_X9_goesB_j196 k_2 v8_5 (put τ_6 44 k_2 ((if (((τ_6 44 k_2).toInt64) + (if ((((τ_1 22 ((((10 : Int32) * (τ_1 23 (a1.toNatClampNeg))) + (τ_1 24 (a1.toNatClampNeg))).toNatClampNeg)).toInt64) * ((τ_6 14 k_2).toInt64)) / (1000 : Int64)) < (1 : Int64) then (1 : Int64) else ((((τ_1 22 ((((10 : Int32) * (τ_1 23 (a1.toNatClampNeg))) + (τ_1 24 (a1.toNatClampNeg))).toNatClampNeg)).toInt64) * ((τ_6 14 k_2).toInt64)) / (1000 : Int64)))) < ((τ_6 14 k_2).toInt64) then (((τ_6 44 k_2).toInt64) + (if ((((τ_1 22 ((((10 : Int32) * (τ_1 23 (a1.toNatClampNeg))) + (τ_1 24 (a1.toNatClampNeg))).toNatClampNeg)).toInt64) * ((τ_6 14 k_2).toInt64)) / (1000 : Int64)) < (1 : Int64) then (1 : Int64) else ((((τ_1 22 ((((10 : Int32) * (τ_1 23 (a1.toNatClampNeg))) + (τ_1 24 (a1.toNatClampNeg))).toNatClampNeg)).toInt64) * ((τ_6 14 k_2).toInt64)) / (1000 : Int64)))) else ((τ_6 14 k_2).toInt64)).toInt32))))
def s_X9_goesB_c71 (a1 : Int32) (τ_1 : St) (k_2 : Nat) (τ_2 : St) : Int32 → St := fun x9 => match x9 with
  | v8_5 => (if (τ_1 23 (a1.toNatClampNeg)) < (8 : Int32) then (s_X9_goesB_j140 a1 τ_1 k_2 v8_5 τ_2) else (if v8_5 ≤ (0 : Int32) then (s_X9_goesB_j140 a1 τ_1 k_2 v8_5 τ_2) else (s_X9_goesB_j140 a1 τ_1 k_2 v8_5 (put τ_2 44 k_2 (if (0 : Int32) < ((τ_2 44 k_2) - (v8_5 / (100 : Int32))) then ((τ_2 44 k_2) - (v8_5 / (100 : Int32))) else (0 : Int32))))))
def s_X9_goesB_l71 (k_2 : Nat) (τ_2 : St) (k_5 : Nat) : Int32 → Int32 := fun x9 => match x9 with
  | v8_5 => (if (τ_2 45 k_5) = (nI k_2) then (v8_5 + (s_X9_partsOfHerd τ_2 (nI k_5))) else (v8_5 + (0 : Int32)))
def s_X9_goesB_l56 (a1 : Int32) (τ_1 : St) (k_2 : Nat) : St → St := fun x9 => match x9 with
  | τ_2 => (s_X9_goesB_c71 a1 τ_1 k_2 τ_2 (iter (s_X9_goesB_l71 k_2 τ_2) ((τ_2 6 0).toNatClampNeg - 0) 0 (0 : Int32)))
def s_X9_goesB_c3 (a1 : Int32) : St → St := fun x9 => match x9 with
  | τ_1 => (s_X9_goesB_c56 (iter (s_X9_goesB_l56 a1 τ_1) ((τ_1 2 0).toNatClampNeg - 0) 0 τ_1))
def s_X9_goesB_l3  (k_1 : Nat) : St → St := fun x9 => match x9 with
  | τ_1 => (put τ_1 43 k_1 (0 : Int32))
def s_X9_goesB (σ : St) (a1 : Int32) : St := (s_X9_goesB_c3 a1 (iter s_X9_goesB_l3 ((σ 6 0).toNatClampNeg - 0) 0 σ))
theorem fr_s_X9_goesB_c56  (s : St) {f : Nat} (h43 : f ≠ 43) (h44 : f ≠ 44) (h46 : f ≠ 46) : (s_X9_goesB_c56 s) f = s f := by
  unfold s_X9_goesB_c56
  all_goals ((try dsimp only) <;> ((repeat' split) <;> (try simp only [put_fr, ne_eq, not_false_eq_true, h43, h44, h46, fr_s_X9_shares])))
theorem fr_s_X9_goesB_c250  (s : St) {f : Nat} (h43 : f ≠ 43) (h44 : f ≠ 44) (h46 : f ≠ 46) : (s_X9_goesB_c250 s) f = s f := by
  unfold s_X9_goesB_c250
  all_goals ((try dsimp only) <;> ((repeat' split) <;> (try simp only [put_fr, ne_eq, not_false_eq_true, h43, h44, h46, fr_s_X9_shares, fr_s_X9_goesB_c56])))
theorem fr_s_X9_goesB_l250 (k_2 : Nat) (k_9 : Nat) (s : St) {f : Nat} (h43 : f ≠ 43) (h44 : f ≠ 44) (h46 : f ≠ 46) : (s_X9_goesB_l250 k_2 k_9 s) f = s f := by
  unfold s_X9_goesB_l250
  all_goals ((try dsimp only) <;> ((repeat' split) <;> (try simp only [put_fr, ne_eq, not_false_eq_true, h43, h44, h46, fr_s_X9_shares, fr_s_X9_goesB_c56, fr_s_X9_goesB_c250])))
theorem fri_s_X9_goesB_l250 (k_2 : Nat) (n k : Nat) (s : St) {f : Nat} (h43 : f ≠ 43) (h44 : f ≠ 44) (h46 : f ≠ 46) : (iter (s_X9_goesB_l250 k_2) n k s) f = s f := iter_fr (P := (fun s => s f)) (fun k s => fr_s_X9_goesB_l250 k_2 k s h43 h44 h46) n k s
theorem fr_s_X9_goesB_j247 (k_2 : Nat) (τ_8 : St) {f : Nat} (h43 : f ≠ 43) (h44 : f ≠ 44) (h46 : f ≠ 46) : (s_X9_goesB_j247 k_2 τ_8) f = τ_8 f := by
  unfold s_X9_goesB_j247
  all_goals ((try dsimp only) <;> ((repeat' split) <;> (try simp only [put_fr, ne_eq, not_false_eq_true, h43, h44, h46, fr_s_X9_shares, fr_s_X9_goesB_c56, fr_s_X9_goesB_c250, fri_s_X9_goesB_l250])))
theorem fr_s_X9_goesB_j196 (k_2 : Nat) (v8_5 : Int32) (τ_7 : St) {f : Nat} (h43 : f ≠ 43) (h44 : f ≠ 44) (h46 : f ≠ 46) : (s_X9_goesB_j196 k_2 v8_5 τ_7) f = τ_7 f := by
  unfold s_X9_goesB_j196
  all_goals ((try dsimp only) <;> ((repeat' split) <;> (try simp only [put_fr, ne_eq, not_false_eq_true, h43, h44, h46, fr_s_X9_shares, fr_s_X9_goesB_c56, fr_s_X9_goesB_c250, fri_s_X9_goesB_l250, fr_s_X9_goesB_j247])))
theorem fr_s_X9_goesB_j140 (a1 : Int32) (τ_1 : St) (k_2 : Nat) (v8_5 : Int32) (τ_6 : St) {f : Nat} (h43 : f ≠ 43) (h44 : f ≠ 44) (h46 : f ≠ 46) : (s_X9_goesB_j140 a1 τ_1 k_2 v8_5 τ_6) f = τ_6 f := by
  unfold s_X9_goesB_j140
  all_goals ((try dsimp only) <;> ((repeat' split) <;> (try simp only [put_fr, ne_eq, not_false_eq_true, h43, h44, h46, fr_s_X9_shares, fr_s_X9_goesB_c56, fr_s_X9_goesB_c250, fri_s_X9_goesB_l250, fr_s_X9_goesB_j247, fr_s_X9_goesB_j196])))
theorem fr_s_X9_goesB_c71 (a1 : Int32) (τ_1 : St) (k_2 : Nat) (τ_2 : St) (s : Int32) {f : Nat} (h43 : f ≠ 43) (h44 : f ≠ 44) (h46 : f ≠ 46) : (s_X9_goesB_c71 a1 τ_1 k_2 τ_2 s) f = τ_2 f := by
  unfold s_X9_goesB_c71
  all_goals ((try dsimp only) <;> ((repeat' split) <;> (try simp only [put_fr, ne_eq, not_false_eq_true, h43, h44, h46, fr_s_X9_shares, fr_s_X9_goesB_c56, fr_s_X9_goesB_c250, fri_s_X9_goesB_l250, fr_s_X9_goesB_j247, fr_s_X9_goesB_j196, fr_s_X9_goesB_j140])))
theorem fr_s_X9_goesB_l56 (a1 : Int32) (τ_1 : St) (k_2 : Nat) (s : St) {f : Nat} (h43 : f ≠ 43) (h44 : f ≠ 44) (h46 : f ≠ 46) : (s_X9_goesB_l56 a1 τ_1 k_2 s) f = s f := by
  unfold s_X9_goesB_l56
  all_goals ((try dsimp only) <;> ((repeat' split) <;> (try simp only [put_fr, ne_eq, not_false_eq_true, h43, h44, h46, fr_s_X9_shares, fr_s_X9_goesB_c56, fr_s_X9_goesB_c250, fri_s_X9_goesB_l250, fr_s_X9_goesB_j247, fr_s_X9_goesB_j196, fr_s_X9_goesB_j140, fr_s_X9_goesB_c71])))
theorem fri_s_X9_goesB_l56 (a1 : Int32) (τ_1 : St) (n k : Nat) (s : St) {f : Nat} (h43 : f ≠ 43) (h44 : f ≠ 44) (h46 : f ≠ 46) : (iter (s_X9_goesB_l56 a1 τ_1) n k s) f = s f := iter_fr (P := (fun s => s f)) (fun k s => fr_s_X9_goesB_l56 a1 τ_1 k s h43 h44 h46) n k s
theorem fr_s_X9_goesB_c3 (a1 : Int32) (s : St) {f : Nat} (h43 : f ≠ 43) (h44 : f ≠ 44) (h46 : f ≠ 46) : (s_X9_goesB_c3 a1 s) f = s f := by
  unfold s_X9_goesB_c3
  all_goals ((try dsimp only) <;> ((repeat' split) <;> (try simp only [put_fr, ne_eq, not_false_eq_true, h43, h44, h46, fr_s_X9_shares, fr_s_X9_goesB_c56, fr_s_X9_goesB_c250, fri_s_X9_goesB_l250, fr_s_X9_goesB_j247, fr_s_X9_goesB_j196, fr_s_X9_goesB_j140, fr_s_X9_goesB_c71, fri_s_X9_goesB_l56])))
theorem fr_s_X9_goesB_l3  (k_1 : Nat) (s : St) {f : Nat} (h43 : f ≠ 43) (h44 : f ≠ 44) (h46 : f ≠ 46) : (s_X9_goesB_l3 k_1 s) f = s f := by
  unfold s_X9_goesB_l3
  all_goals ((try dsimp only) <;> ((repeat' split) <;> (try simp only [put_fr, ne_eq, not_false_eq_true, h43, h44, h46, fr_s_X9_shares, fr_s_X9_goesB_c56, fr_s_X9_goesB_c250, fri_s_X9_goesB_l250, fr_s_X9_goesB_j247, fr_s_X9_goesB_j196, fr_s_X9_goesB_j140, fr_s_X9_goesB_c71, fri_s_X9_goesB_l56, fr_s_X9_goesB_c3])))
theorem fri_s_X9_goesB_l3  (n k : Nat) (s : St) {f : Nat} (h43 : f ≠ 43) (h44 : f ≠ 44) (h46 : f ≠ 46) : (iter s_X9_goesB_l3 n k s) f = s f := iter_fr (P := (fun s => s f)) (fun k s => fr_s_X9_goesB_l3  k s h43 h44 h46) n k s
theorem fr_s_X9_goesB (σ : St) (a1 : Int32) {f : Nat} (h43 : f ≠ 43) (h44 : f ≠ 44) (h46 : f ≠ 46) : (s_X9_goesB σ a1 ) f = σ f := by
  unfold s_X9_goesB
  all_goals ((try dsimp only) <;> ((repeat' split) <;> (try simp only [put_fr, ne_eq, not_false_eq_true, h43, h44, h46, fr_s_X9_shares, fr_s_X9_goesB_c56, fr_s_X9_goesB_c250, fri_s_X9_goesB_l250, fr_s_X9_goesB_j247, fr_s_X9_goesB_j196, fr_s_X9_goesB_j140, fr_s_X9_goesB_c71, fri_s_X9_goesB_l56, fr_s_X9_goesB_c3, fri_s_X9_goesB_l3])))
set_option maxHeartbeats 1000000 in
set_option maxRecDepth 100000 in
theorem k_X9_goesB (l : Launch) (D : va_G) (ca : Nat → ClassId) (h : Nat) (ad : Nat → Nat) (σ : St) (a1 : Int32) (sz : Nat) (hI : IR σ) (ho : vp_in a1 721) (R : St) (hR : s_X9_goesB σ a1 = R) : Met l yX9_goes wsX9_goes ({ frames := 3, cells := 0, slots := 0, locals := 73 }) (va_Pc [.ref h, .ref (ad 44), .ref (ad 45), .int a1, .ref (ad 46)] (pw_pre D ca (WM ca h ad σ) sz)) (va_Qv (fun _ : Unit => True) (fun (_ : Unit) (t : State) => pw_post D ca (WM ca h ad σ) sz (WM ca h ad R) t ∧ IR R) (va_A (WM ca h ad σ) sz)) 0 0 (va_A (WM ca h ad σ) sz) := by
  refine Met.ofW (cc := cX9_goes) (maxL := 11) (ret := none) (by decide) rfl ?_
  intro p e s m args below meth c s₁ B hml hv
  obtain ⟨rfl, hsz, hP, hK, hD0⟩ := hv
  have hx := B.exec
  have hb := B.bytes
  have hr := B.returns
  have hts := atoms_spec (ws := wsX9_goes) B.pre
  have hown : s.vm.findClass RX9 = some m.cls := findClass_of_methodNamed B.named
  have hlocks := B.notSynchronized
  have hu9 : ∀ w ∈ u_ws RX9 TX9 51, w ∈ wsX9_goes := fun w h => List.mem_cons_of_mem _ (uw9 w h)
  subst hsz
  have hD := hD0.self (sz := s.heap.size)
  obtain ⟨A, hAe⟩ : ∃ A, A = va_A (WM ca h ad σ) s.heap.size := ⟨_, rfl⟩
  rw [← hAe] at hD ⊢
  have hA : ∀ q : Nat, s.heap.size ≤ q → A q := fun q h => by rw [hAe]; exact Or.inr h
  have hS : va_S A s.heap s.heap [] := va_S.rf
  have hl := lv_entry ([.ref h, .ref (ad 44), .ref (ad 45), .int a1, .ref (ad 46)]) (n := 11) (Nat.le_of_ble_eq_true rfl)
  rw [lg_entry_eq]
  generalize (lg_sl ([.ref h, .ref (ad 44), .ref (ad 45), .int a1, .ref (ad 46)]) ++ List.replicate (11 - (lg_sl ([.ref h, .ref (ad 44), .ref (ad 45), .int a1, .ref (ad 46)])).length) Slot.unset).toArray = ls at hl ⊢
  have hl : lv_has ls 11 [(0, .ref h), (1, .ref (ad 44)), (2, .ref (ad 45)), (3, .int a1), (4, .ref (ad 46))] := hl
  obtain ⟨H, hH⟩ : ∃ H, H = s.heap := ⟨_, rfl⟩
  have hP : va_P D vwCl (WM ca h ad σ) H := by rw [hH]; exact hP
  have hS : va_S A s.heap H [] := by rw [hH]; exact hS
  obtain ⟨QQ, hQ⟩ : ∃ Q9, Q9 = MQ below (va_Qv (fun _ : Unit => True) (fun (_ : Unit) (t : State) => pw_post D ca (WM ca h ad σ) s.heap.size (WM ca h ad R) t ∧ IR R) A) ([.ref h, .ref (ad 44), .ref (ad 45), .int a1, .ref (ad 46)] : List Value).toArray s 0 0 A := ⟨_, rfl⟩
  rw [← hQ]
  show W _ _ _ _ _ _ _ _ _ _ s.heap _ _ _ _ _
  rw [← hH]
  have hR : (s_X9_goesB_c3 a1 (iter s_X9_goesB_l3 ((σ 6 0).toNatClampNeg - 0) 0 σ)) = R := hR
  refine lv_iconst (v := (0 : Int32)) hx hb dX9_goes_0 (by decide) ?_
  refine lv_istore (lv' := [(5, .int (0 : Int32)), (0, .ref h), (1, .ref (ad 44)), (2, .ref (ad 45)), (3, .int a1), (4, .ref (ad 46))]) hx hb dX9_goes_1 hl (by decide) rfl (fun ls hl => ?_)
  have hE_1 : ∀ (τ_1 : St) (hI_1 : IR τ_1) (H : Heap) (locs : List Loc) (ls : Array Slot), s_X9_goesB_c3 a1 τ_1 = R → va_P D vwCl (WM ca h ad τ_1) H → va_D A (WM ca h ad τ_1) → va_S A s.heap H locs → lv_has ls 11 [(0, .ref h), (1, .ref (ad 44)), (2, .ref (ad 45)), (3, .int a1), (4, .ref (ad 46))] → W p l e ((headSpec wsX9_goes ({ frames := 3, cells := 0, slots := 0, locals := 73 })).room) s m ([.ref h, .ref (ad 44), .ref (ad 45), .int a1, .ref (ad 46)] : List Value).toArray below meth c H locs 0 0 QQ (F0 m 26 ls []) := by
    intro τ_1 hI_1 H locs ls hR hP hD hS hl
    have hR : (s_X9_goesB_c56 (iter (s_X9_goesB_l56 a1 τ_1) ((τ_1 2 0).toNatClampNeg - 0) 0 τ_1)) = R := hR
    refine lv_aload_n hx hb dX9_goes_26 rfl (lv_at hl 0 rfl) ?_
    refine va_get (D := D) (ci := 9) (v := .ref (ad 23)) (C := RX9) (T := TX9) (N := 51) hx hb hts hu9 hown hK hP 0 wm_0 rfl 23 (by decide) (hts (.fieldLink RX9 44 "GrazeBookModel" "rains" "[I") (List.mem_cons_of_mem _ mw_806)) (fun _ h9 => h9) rfl dX9_goes_27 ?_
    refine lv_iload_n hx hb dX9_goes_30 rfl (lv_at hl 3 rfl) ?_
    refine va_iald_k (k := (a1.toNatClampNeg)) (v := (τ_1 23 (a1.toNatClampNeg))) hx hb hK hP 12 0 wm_a23 rfl rfl rfl ho dX9_goes_31 ?_
    refine lv_istore (lv' := [(5, .int (τ_1 23 (a1.toNatClampNeg))), (0, .ref h), (1, .ref (ad 44)), (2, .ref (ad 45)), (3, .int a1), (4, .ref (ad 46))]) hx hb dX9_goes_32 hl (by decide) rfl (fun ls hl => ?_)
    refine lv_aload_n hx hb dX9_goes_34 rfl (lv_at hl 1 rfl) ?_
    refine va_get (D := D) (ci := 9) (v := .ref (ad 22)) (C := RX9) (T := TX9) (N := 51) hx hb hts hu9 hown hK hP 0 wm_0 rfl 22 (by decide) (hts (.fieldLink RX9 41 "GrazeBookModel" "rates" "[I") (List.mem_cons_of_mem _ mw_805)) (fun _ h9 => h9) rfl dX9_goes_35 ?_
    refine lv_bipush (v := (10 : Int32)) hx hb dX9_goes_38 (by decide) ?_
    refine lv_iload hx hb dX9_goes_40 (lv_at hl 0 rfl) ?_
    refine lv_imul hx hb dX9_goes_42 ?_
    refine lv_aload_n hx hb dX9_goes_43 rfl (lv_at hl 1 rfl) ?_
    refine va_get (D := D) (ci := 9) (v := .ref (ad 24)) (C := RX9) (T := TX9) (N := 51) hx hb hts hu9 hown hK hP 0 wm_0 rfl 24 (by decide) (hts (.fieldLink RX9 47 "GrazeBookModel" "warmths" "[I") (List.mem_cons_of_mem _ mw_807)) (fun _ h9 => h9) rfl dX9_goes_44 ?_
    refine lv_iload_n hx hb dX9_goes_47 rfl (lv_at hl 4 rfl) ?_
    refine va_iald_k (k := (a1.toNatClampNeg)) (v := (τ_1 24 (a1.toNatClampNeg))) hx hb hK hP 13 0 wm_a24 rfl rfl rfl ho dX9_goes_48 ?_
    refine lv_iadd hx hb dX9_goes_49 ?_
    refine va_iald_k (k := ((((10 : Int32) * (τ_1 23 (a1.toNatClampNeg))) + (τ_1 24 (a1.toNatClampNeg))).toNatClampNeg)) (v := (τ_1 22 ((((10 : Int32) * (τ_1 23 (a1.toNatClampNeg))) + (τ_1 24 (a1.toNatClampNeg))).toNatClampNeg))) hx hb hK hP 11 0 wm_a22 rfl rfl rfl (ix_rate (vp_mono (n := 10) (vp_in_iff.mpr (ir_23 hI_1 (a1.toNatClampNeg))) (by decide)) (vp_mono (n := 10) (vp_in_iff.mpr (ir_24 hI_1 (a1.toNatClampNeg))) (by decide))) dX9_goes_50 ?_
    refine lv_istore (lv' := [(6, .int (τ_1 22 ((((10 : Int32) * (τ_1 23 (a1.toNatClampNeg))) + (τ_1 24 (a1.toNatClampNeg))).toNatClampNeg))), (5, .int (τ_1 23 (a1.toNatClampNeg))), (0, .ref h), (1, .ref (ad 44)), (2, .ref (ad 45)), (3, .int a1), (4, .ref (ad 46))]) hx hb dX9_goes_51 hl (by decide) rfl (fun ls hl => ?_)
    refine lv_iconst (v := (0 : Int32)) hx hb dX9_goes_53 (by decide) ?_
    refine lv_istore (lv' := [(7, .int (0 : Int32)), (6, .int (τ_1 22 ((((10 : Int32) * (τ_1 23 (a1.toNatClampNeg))) + (τ_1 24 (a1.toNatClampNeg))).toNatClampNeg))), (5, .int (τ_1 23 (a1.toNatClampNeg))), (0, .ref h), (1, .ref (ad 44)), (2, .ref (ad 45)), (3, .int a1), (4, .ref (ad 46))]) hx hb dX9_goes_54 hl (by decide) rfl (fun ls hl => ?_)
    have hE_2 : ∀ (τ_2 : St) (hI_2 : IR τ_2) (H : Heap) (locs : List Loc) (ls : Array Slot), s_X9_goesB_c56 τ_2 = R → va_P D vwCl (WM ca h ad τ_2) H → va_D A (WM ca h ad τ_2) → va_S A s.heap H locs → lv_has ls 11 [] → W p l e ((headSpec wsX9_goes ({ frames := 3, cells := 0, slots := 0, locals := 73 })).room) s m ([.ref h, .ref (ad 44), .ref (ad 45), .int a1, .ref (ad 46)] : List Value).toArray below meth c H locs 0 0 QQ (F0 m 310 ls []) := by
      intro τ_2 hI_2 H locs ls hR hP hD hS hl
      have hR : τ_2 = R := hR
      have hI9 : IR τ_2 := hI_2
      subst hR
      rw [hQ]
      exact W.vret hx hb hr (fun t ht hW => ⟨⟨(), rfl, trivial, ⟨by rw [ht]; exact hP, va_K.moved hW.alike hK, by rw [← hAe]; exact hD⟩, hI9⟩, hS.F ht⟩) hS.2.2 dX9_goes_310
    have hL_2 : ∀ (n k_2 : Nat) (τ_2 : St) (hk_2 : lpk (τ_2 2 0) k_2 n) (hI_2 : IR τ_2) (H : Heap) (locs : List Loc) (ls : Array Slot), s_X9_goesB_c56 (iter (s_X9_goesB_l56 a1 τ_1) n k_2 τ_2) = R → va_P D vwCl (WM ca h ad τ_2) H → va_D A (WM ca h ad τ_2) → va_S A s.heap H locs → lv_has ls 11 [(7, .int (nI k_2)), (6, .int (τ_1 22 ((((10 : Int32) * (τ_1 23 (a1.toNatClampNeg))) + (τ_1 24 (a1.toNatClampNeg))).toNatClampNeg))), (5, .int (τ_1 23 (a1.toNatClampNeg))), (0, .ref h), (1, .ref (ad 44)), (2, .ref (ad 45)), (4, .ref (ad 46))] → W p l e ((headSpec wsX9_goes ({ frames := 3, cells := 0, slots := 0, locals := 73 })).room) s m ([.ref h, .ref (ad 44), .ref (ad 45), .int a1, .ref (ad 46)] : List Value).toArray below meth c H locs 0 0 QQ (F0 m 56 ls []) := by
      intro n
      induction n with
      | zero =>
        intro k_2 τ_2 hk_2 hI_2 H locs ls hR hP hD hS hl
        refine lv_iload hx hb dX9_goes_56 (lv_at hl 0 rfl) ?_
        refine lv_aload_n hx hb dX9_goes_58 rfl (lv_at hl 3 rfl) ?_
        refine va_get (D := D) (ci := 9) (v := .int (τ_2 2 0)) (C := RX9) (T := TX9) (N := 51) hx hb hts hu9 hown hK hP 0 wm_0 rfl 2 (by decide) (hts (.fieldLink RX9 127 "GrazeBookModel" "pieces" "I") (List.mem_cons_of_mem _ mw_785)) (fun _ h9 => h9) rfl dX9_goes_59 ?_
        refine lv_icmp_ge (tgt := 310) hx hb dX9_goes_62 (by decide) (fun _ => ?_) (fun c_3 => absurd (ge_end hk_2) c_3)
        exact hE_2 τ_2 hI_2 _ _ _ hR hP hD hS (lv_sub hl [] rfl)
      | succ n ih =>
        intro k_2 τ_2 hk_2 hI_2 H locs ls hR hP hD hS hl
        obtain ⟨S_2, hB_2⟩ : ∃ s9, s_X9_goesB_l56 a1 τ_1 k_2 τ_2 = s9 := ⟨_, rfl⟩
        have hR : s_X9_goesB_c56 (iter (s_X9_goesB_l56 a1 τ_1) n (k_2 + 1) S_2) = R := by rw [← hB_2]; exact hR
        have hB_2 : (s_X9_goesB_c71 a1 τ_1 k_2 τ_2 (iter (s_X9_goesB_l71 k_2 τ_2) ((τ_2 6 0).toNatClampNeg - 0) 0 (0 : Int32))) = S_2 := hB_2
        refine lv_iload hx hb dX9_goes_56 (lv_at hl 0 rfl) ?_
        refine lv_aload_n hx hb dX9_goes_58 rfl (lv_at hl 3 rfl) ?_
        refine va_get (D := D) (ci := 9) (v := .int (τ_2 2 0)) (C := RX9) (T := TX9) (N := 51) hx hb hts hu9 hown hK hP 0 wm_0 rfl 2 (by decide) (hts (.fieldLink RX9 127 "GrazeBookModel" "pieces" "I") (List.mem_cons_of_mem _ mw_785)) (fun _ h9 => h9) rfl dX9_goes_59 ?_
        refine lv_icmp_ge (tgt := 310) hx hb dX9_goes_62 (by decide) (fun c_4 => absurd c_4 (ge_go hk_2)) (fun _ => ?_)
        refine lv_iconst (v := (0 : Int32)) hx hb dX9_goes_65 (by decide) ?_
        refine lv_istore (lv' := [(8, .int (0 : Int32)), (7, .int (nI k_2)), (6, .int (τ_1 22 ((((10 : Int32) * (τ_1 23 (a1.toNatClampNeg))) + (τ_1 24 (a1.toNatClampNeg))).toNatClampNeg))), (5, .int (τ_1 23 (a1.toNatClampNeg))), (0, .ref h), (1, .ref (ad 44)), (2, .ref (ad 45)), (4, .ref (ad 46))]) hx hb dX9_goes_66 hl (by decide) rfl (fun ls hl => ?_)
        refine lv_iconst (v := (0 : Int32)) hx hb dX9_goes_68 (by decide) ?_
        refine lv_istore (lv' := [(9, .int (0 : Int32)), (8, .int (0 : Int32)), (7, .int (nI k_2)), (6, .int (τ_1 22 ((((10 : Int32) * (τ_1 23 (a1.toNatClampNeg))) + (τ_1 24 (a1.toNatClampNeg))).toNatClampNeg))), (5, .int (τ_1 23 (a1.toNatClampNeg))), (0, .ref h), (1, .ref (ad 44)), (2, .ref (ad 45)), (4, .ref (ad 46))]) hx hb dX9_goes_69 hl (by decide) rfl (fun ls hl => ?_)
        have hE_5 : ∀ (v8_5 : Int32) (ha_5 : 0 ≤ v8_5.toInt ∧ v8_5.toInt ≤ 90000) (H : Heap) (locs : List Loc) (ls : Array Slot), s_X9_goesB_c71 a1 τ_1 k_2 τ_2 v8_5 = S_2 → va_P D vwCl (WM ca h ad τ_2) H → va_D A (WM ca h ad τ_2) → va_S A s.heap H locs → lv_has ls 11 [(8, .int v8_5), (7, .int (nI k_2)), (6, .int (τ_1 22 ((((10 : Int32) * (τ_1 23 (a1.toNatClampNeg))) + (τ_1 24 (a1.toNatClampNeg))).toNatClampNeg))), (5, .int (τ_1 23 (a1.toNatClampNeg))), (0, .ref h), (1, .ref (ad 44)), (2, .ref (ad 45)), (4, .ref (ad 46))] → W p l e ((headSpec wsX9_goes ({ frames := 3, cells := 0, slots := 0, locals := 73 })).room) s m ([.ref h, .ref (ad 44), .ref (ad 45), .int a1, .ref (ad 46)] : List Value).toArray below meth c H locs 0 0 QQ (F0 m 110 ls []) := by
          intro v8_5 ha_5 H locs ls hB_2 hP hD hS hl
          have hB_2 : (if (τ_1 23 (a1.toNatClampNeg)) < (8 : Int32) then (s_X9_goesB_j140 a1 τ_1 k_2 v8_5 τ_2) else (if v8_5 ≤ (0 : Int32) then (s_X9_goesB_j140 a1 τ_1 k_2 v8_5 τ_2) else (s_X9_goesB_j140 a1 τ_1 k_2 v8_5 (put τ_2 44 k_2 (if (0 : Int32) < ((τ_2 44 k_2) - (v8_5 / (100 : Int32))) then ((τ_2 44 k_2) - (v8_5 / (100 : Int32))) else (0 : Int32)))))) = S_2 := hB_2
          refine lv_iload hx hb dX9_goes_110 (lv_at hl 3 rfl) ?_
          refine lv_bipush (v := (8 : Int32)) hx hb dX9_goes_112 (by decide) ?_
          have hJ_6 : ∀ (τ_6 : St) (hI_6 : IR τ_6) (hf2_6 : τ_6 2 = τ_2 2) (H : Heap) (locs : List Loc) (ls : Array Slot), s_X9_goesB_j140 a1 τ_1 k_2 v8_5 τ_6 = S_2 → va_P D vwCl (WM ca h ad τ_6) H → va_D A (WM ca h ad τ_6) → va_S A s.heap H locs → lv_has ls 11 [(8, .int v8_5), (7, .int (nI k_2)), (6, .int (τ_1 22 ((((10 : Int32) * (τ_1 23 (a1.toNatClampNeg))) + (τ_1 24 (a1.toNatClampNeg))).toNatClampNeg))), (5, .int (τ_1 23 (a1.toNatClampNeg))), (0, .ref h), (1, .ref (ad 44)), (2, .ref (ad 45)), (4, .ref (ad 46))] → W p l e ((headSpec wsX9_goes ({ frames := 3, cells := 0, slots := 0, locals := 73 })).room) s m ([.ref h, .ref (ad 44), .ref (ad 45), .int a1, .ref (ad 46)] : List Value).toArray below meth c H locs 0 0 QQ (F0 m 140 ls []) := by
            intro τ_6 hI_6 hf2_6 H locs ls hB_2 hP hD hS hl
            have hB_2 : (if (τ_6 14 k_2) ≤ (τ_6 44 k_2) then (s_X9_goesB_j196 k_2 v8_5 τ_6) else (s_X9_goesB_j196 k_2 v8_5 (put τ_6 44 k_2 ((if (((τ_6 44 k_2).toInt64) + (if ((((τ_1 22 ((((10 : Int32) * (τ_1 23 (a1.toNatClampNeg))) + (τ_1 24 (a1.toNatClampNeg))).toNatClampNeg)).toInt64) * ((τ_6 14 k_2).toInt64)) / (1000 : Int64)) < (1 : Int64) then (1 : Int64) else ((((τ_1 22 ((((10 : Int32) * (τ_1 23 (a1.toNatClampNeg))) + (τ_1 24 (a1.toNatClampNeg))).toNatClampNeg)).toInt64) * ((τ_6 14 k_2).toInt64)) / (1000 : Int64)))) < ((τ_6 14 k_2).toInt64) then (((τ_6 44 k_2).toInt64) + (if ((((τ_1 22 ((((10 : Int32) * (τ_1 23 (a1.toNatClampNeg))) + (τ_1 24 (a1.toNatClampNeg))).toNatClampNeg)).toInt64) * ((τ_6 14 k_2).toInt64)) / (1000 : Int64)) < (1 : Int64) then (1 : Int64) else ((((τ_1 22 ((((10 : Int32) * (τ_1 23 (a1.toNatClampNeg))) + (τ_1 24 (a1.toNatClampNeg))).toNatClampNeg)).toInt64) * ((τ_6 14 k_2).toInt64)) / (1000 : Int64)))) else ((τ_6 14 k_2).toInt64)).toInt32)))) = S_2 := hB_2
            refine lv_aload_n hx hb dX9_goes_140 rfl (lv_at hl 5 rfl) ?_
            refine lv_iload hx hb dX9_goes_141 (lv_at hl 1 rfl) ?_
            refine va_iald_k (k := k_2) (v := (τ_6 44 k_2)) hx hb hK hP 33 0 wm_a44 rfl (ix_cl hk_2) rfl (ix_loop (N := 6) hk_2 (ir_2 hI_2) (by decide) (by decide)) dX9_goes_143 ?_
            refine lv_aload_n hx hb dX9_goes_144 rfl (lv_at hl 4 rfl) ?_
            refine va_get (D := D) (ci := 9) (v := .ref (ad 14)) (C := RX9) (T := TX9) (N := 51) hx hb hts hu9 hown hK hP 0 wm_0 rfl 14 (by decide) (hts (.fieldLink RX9 16 "GrazeBookModel" "full" "[I") (List.mem_cons_of_mem _ mw_797)) (fun _ h9 => h9) rfl dX9_goes_145 ?_
            refine lv_iload hx hb dX9_goes_148 (lv_at hl 1 rfl) ?_
            refine va_iald_k (k := k_2) (v := (τ_6 14 k_2)) hx hb hK hP 3 0 wm_a14 rfl (ix_cl hk_2) rfl (ix_loop (N := 6) hk_2 (ir_2 hI_2) (by decide) (by decide)) dX9_goes_150 ?_
            have hJ_7 : ∀ (τ_7 : St) (hI_7 : IR τ_7) (hf2_7 : τ_7 2 = τ_2 2) (H : Heap) (locs : List Loc) (ls : Array Slot), s_X9_goesB_j196 k_2 v8_5 τ_7 = S_2 → va_P D vwCl (WM ca h ad τ_7) H → va_D A (WM ca h ad τ_7) → va_S A s.heap H locs → lv_has ls 11 [(8, .int v8_5), (7, .int (nI k_2)), (6, .int (τ_1 22 ((((10 : Int32) * (τ_1 23 (a1.toNatClampNeg))) + (τ_1 24 (a1.toNatClampNeg))).toNatClampNeg))), (5, .int (τ_1 23 (a1.toNatClampNeg))), (0, .ref h), (1, .ref (ad 44)), (2, .ref (ad 45)), (4, .ref (ad 46))] → W p l e ((headSpec wsX9_goes ({ frames := 3, cells := 0, slots := 0, locals := 73 })).room) s m ([.ref h, .ref (ad 44), .ref (ad 45), .int a1, .ref (ad 46)] : List Value).toArray below meth c H locs 0 0 QQ (F0 m 196 ls []) := by
              intro τ_7 hI_7 hf2_7 H locs ls hB_2 hP hD hS hl
              have hB_2 : (if v8_5 ≤ (if v8_5 < (τ_7 44 k_2) then v8_5 else (τ_7 44 k_2)) then (s_X9_goesB_j247 k_2 (put (put τ_7 44 k_2 ((τ_7 44 k_2) - (if v8_5 < (τ_7 44 k_2) then v8_5 else (τ_7 44 k_2)))) 46 k_2 ((τ_7 46 k_2) + (if v8_5 < (τ_7 44 k_2) then v8_5 else (τ_7 44 k_2))))) else (s_X9_goesB_j247 k_2 (s_X9_shares (put (put τ_7 44 k_2 ((τ_7 44 k_2) - (if v8_5 < (τ_7 44 k_2) then v8_5 else (τ_7 44 k_2)))) 46 k_2 ((τ_7 46 k_2) + (if v8_5 < (τ_7 44 k_2) then v8_5 else (τ_7 44 k_2)))) (nI k_2) v8_5 (v8_5 - (if v8_5 < (τ_7 44 k_2) then v8_5 else (τ_7 44 k_2)))))) = S_2 := hB_2
              refine lv_aload_n hx hb dX9_goes_196 rfl (lv_at hl 5 rfl) ?_
              refine lv_iload hx hb dX9_goes_197 (lv_at hl 1 rfl) ?_
              refine va_iald_k (k := k_2) (v := (τ_7 44 k_2)) hx hb hK hP 33 0 wm_a44 rfl (ix_cl hk_2) rfl (ix_loop (N := 6) hk_2 (ir_2 hI_2) (by decide) (by decide)) dX9_goes_199 ?_
              refine lv_iload hx hb dX9_goes_200 (lv_at hl 0 rfl) ?_
              refine va_mmin hx hb (hml.trans hl.1.symm) hown (hts (.methodLink RX9 173 Lib.Math.min.name) (List.mem_cons_of_mem _ mw_1025)) (hts (.static Lib.Math.min.name) (List.mem_cons_of_mem _ mw_588)) (hts (.initialized "java/lang/Math") (List.mem_cons_of_mem _ mw_68)) (hts (.code Lib.Math.min.name Lib.Math.min.code 2 (some .int)) (List.mem_cons_of_mem _ mw_589)) (Nat.le_of_ble_eq_true rfl) (Nat.le_of_ble_eq_true rfl) (Nat.le_of_ble_eq_true rfl) (Nat.le_of_ble_eq_true rfl) dX9_goes_202 ?_
              refine lv_istore (lv' := [(9, .int (if v8_5 < (τ_7 44 k_2) then v8_5 else (τ_7 44 k_2))), (8, .int v8_5), (7, .int (nI k_2)), (6, .int (τ_1 22 ((((10 : Int32) * (τ_1 23 (a1.toNatClampNeg))) + (τ_1 24 (a1.toNatClampNeg))).toNatClampNeg))), (5, .int (τ_1 23 (a1.toNatClampNeg))), (0, .ref h), (1, .ref (ad 44)), (2, .ref (ad 45)), (4, .ref (ad 46))]) hx hb dX9_goes_205 hl (by decide) rfl (fun ls hl => ?_)
              refine lv_aload_n hx hb dX9_goes_207 rfl (lv_at hl 6 rfl) ?_
              refine lv_iload hx hb dX9_goes_208 (lv_at hl 2 rfl) ?_
              refine lv_dup2_11 hx hb dX9_goes_210 rfl rfl ?_
              refine va_iald_k (k := k_2) (v := (τ_7 44 k_2)) hx hb hK hP 33 0 wm_a44 rfl (ix_cl hk_2) rfl (ix_loop (N := 6) hk_2 (ir_2 hI_2) (by decide) (by decide)) dX9_goes_211 ?_
              refine lv_iload hx hb dX9_goes_212 (lv_at hl 0 rfl) ?_
              refine lv_isub hx hb dX9_goes_214 ?_
              refine va_iast_k (k := k_2) hx hb hK hP hD hS 33 0 wm_a44 rfl (ix_cl hk_2) (ix_loop (N := 6) hk_2 (ir_2 hI_2) (by decide) (by decide)) dX9_goes_215 (fun H locs hP hD hS => ?_)
              rw [wm_s44] at hP hD
              refine lv_aload hx hb dX9_goes_216 (lv_at hl 8 rfl) ?_
              refine lv_iload hx hb dX9_goes_218 (lv_at hl 2 rfl) ?_
              refine lv_dup2_11 hx hb dX9_goes_220 rfl rfl ?_
              refine va_iald_k (k := k_2) (v := (τ_7 46 k_2)) hx hb hK hP 35 0 wm_a46 rfl (ix_cl hk_2) rfl (ix_loop (N := 6) hk_2 (ir_2 hI_2) (by decide) (by decide)) dX9_goes_221 ?_
              refine lv_iload hx hb dX9_goes_222 (lv_at hl 0 rfl) ?_
              refine lv_iadd hx hb dX9_goes_224 ?_
              refine va_iast_k (k := k_2) hx hb hK hP hD hS 35 0 wm_a46 rfl (ix_cl hk_2) (ix_loop (N := 6) hk_2 (ir_2 hI_2) (by decide) (by decide)) dX9_goes_225 (fun H locs hP hD hS => ?_)
              rw [wm_s46] at hP hD
              refine lv_iload hx hb dX9_goes_226 (lv_at hl 1 rfl) ?_
              refine lv_iload hx hb dX9_goes_228 (lv_at hl 0 rfl) ?_
              have hJ_8 : ∀ (τ_8 : St) (hI_8 : IR τ_8) (hf2_8 : τ_8 2 = τ_2 2) (H : Heap) (locs : List Loc) (ls : Array Slot), s_X9_goesB_j247 k_2 τ_8 = S_2 → va_P D vwCl (WM ca h ad τ_8) H → va_D A (WM ca h ad τ_8) → va_S A s.heap H locs → lv_has ls 11 [(7, .int (nI k_2)), (6, .int (τ_1 22 ((((10 : Int32) * (τ_1 23 (a1.toNatClampNeg))) + (τ_1 24 (a1.toNatClampNeg))).toNatClampNeg))), (5, .int (τ_1 23 (a1.toNatClampNeg))), (0, .ref h), (1, .ref (ad 44)), (2, .ref (ad 45)), (4, .ref (ad 46))] → W p l e ((headSpec wsX9_goes ({ frames := 3, cells := 0, slots := 0, locals := 73 })).room) s m ([.ref h, .ref (ad 44), .ref (ad 45), .int a1, .ref (ad 46)] : List Value).toArray below meth c H locs 0 0 QQ (F0 m 247 ls []) := by
                intro τ_8 hI_8 hf2_8 H locs ls hB_2 hP hD hS hl
                have hB_2 : (s_X9_goesB_c250 (iter (s_X9_goesB_l250 k_2) ((τ_8 6 0).toNatClampNeg - 0) 0 τ_8)) = S_2 := hB_2
                refine lv_iconst (v := (0 : Int32)) hx hb dX9_goes_247 (by decide) ?_
                refine lv_istore (lv' := [(10, .int (0 : Int32)), (7, .int (nI k_2)), (6, .int (τ_1 22 ((((10 : Int32) * (τ_1 23 (a1.toNatClampNeg))) + (τ_1 24 (a1.toNatClampNeg))).toNatClampNeg))), (5, .int (τ_1 23 (a1.toNatClampNeg))), (0, .ref h), (1, .ref (ad 44)), (2, .ref (ad 45)), (4, .ref (ad 46))]) hx hb dX9_goes_248 hl (by decide) rfl (fun ls hl => ?_)
                have hE_9 : ∀ (τ_9 : St) (hI_9 : IR τ_9) (hf2_9 : τ_9 2 = τ_2 2) (H : Heap) (locs : List Loc) (ls : Array Slot), s_X9_goesB_c250 τ_9 = S_2 → va_P D vwCl (WM ca h ad τ_9) H → va_D A (WM ca h ad τ_9) → va_S A s.heap H locs → lv_has ls 11 [(7, .int (nI k_2)), (6, .int (τ_1 22 ((((10 : Int32) * (τ_1 23 (a1.toNatClampNeg))) + (τ_1 24 (a1.toNatClampNeg))).toNatClampNeg))), (5, .int (τ_1 23 (a1.toNatClampNeg))), (0, .ref h), (1, .ref (ad 44)), (2, .ref (ad 45)), (4, .ref (ad 46))] → W p l e ((headSpec wsX9_goes ({ frames := 3, cells := 0, slots := 0, locals := 73 })).room) s m ([.ref h, .ref (ad 44), .ref (ad 45), .int a1, .ref (ad 46)] : List Value).toArray below meth c H locs 0 0 QQ (F0 m 304 ls []) := by
                  intro τ_9 hI_9 hf2_9 H locs ls hB_2 hP hD hS hl
                  have hB_2 : τ_9 = S_2 := hB_2
                  refine lv_iinc (v := (nI (k_2 + 1))) (lv' := [(7, .int (nI (k_2 + 1))), (6, .int (τ_1 22 ((((10 : Int32) * (τ_1 23 (a1.toNatClampNeg))) + (τ_1 24 (a1.toNatClampNeg))).toNatClampNeg))), (5, .int (τ_1 23 (a1.toNatClampNeg))), (0, .ref h), (1, .ref (ad 44)), (2, .ref (ad 45)), (4, .ref (ad 46))]) hx hb dX9_goes_304 hl (k := 0) rfl (by rw [show Int32.ofInt 1 = 1 from by decide]; exact nI_1 _) (by decide) rfl (fun ls hl => ?_)
                  refine lv_goto (tgt := 56) hx hb dX9_goes_307 (by decide) ?_
                  subst hB_2
                  exact ih (k_2 + 1) τ_9 (lpk_cast (congrFun hf2_9 0) (ge_next hk_2)) hI_9 _ _ _ hR hP hD hS (lv_sub hl [0, 1, 2, 3, 4, 5, 6] rfl)
                have hL_9 : ∀ (n k_9 : Nat) (τ_9 : St) (hk_9 : lpk (τ_9 6 0) k_9 n) (hI_9 : IR τ_9) (hf2_9 : τ_9 2 = τ_2 2) (H : Heap) (locs : List Loc) (ls : Array Slot), s_X9_goesB_c250 (iter (s_X9_goesB_l250 k_2) n k_9 τ_9) = S_2 → va_P D vwCl (WM ca h ad τ_9) H → va_D A (WM ca h ad τ_9) → va_S A s.heap H locs → lv_has ls 11 [(10, .int (nI k_9)), (7, .int (nI k_2)), (6, .int (τ_1 22 ((((10 : Int32) * (τ_1 23 (a1.toNatClampNeg))) + (τ_1 24 (a1.toNatClampNeg))).toNatClampNeg))), (5, .int (τ_1 23 (a1.toNatClampNeg))), (0, .ref h), (1, .ref (ad 44)), (2, .ref (ad 45)), (4, .ref (ad 46))] → W p l e ((headSpec wsX9_goes ({ frames := 3, cells := 0, slots := 0, locals := 73 })).room) s m ([.ref h, .ref (ad 44), .ref (ad 45), .int a1, .ref (ad 46)] : List Value).toArray below meth c H locs 0 0 QQ (F0 m 250 ls []) := by
                  intro n
                  induction n with
                  | zero =>
                    intro k_9 τ_9 hk_9 hI_9 hf2_9 H locs ls hB_2 hP hD hS hl
                    refine lv_iload hx hb dX9_goes_250 (lv_at hl 0 rfl) ?_
                    refine lv_aload_n hx hb dX9_goes_252 rfl (lv_at hl 4 rfl) ?_
                    refine va_get (D := D) (ci := 9) (v := .int (τ_9 6 0)) (C := RX9) (T := TX9) (N := 51) hx hb hts hu9 hown hK hP 0 wm_0 rfl 6 (by decide) (hts (.fieldLink RX9 164 "GrazeBookModel" "herds" "I") (List.mem_cons_of_mem _ mw_789)) (fun _ h9 => h9) rfl dX9_goes_253 ?_
                    refine lv_icmp_ge (tgt := 304) hx hb dX9_goes_256 (by decide) (fun _ => ?_) (fun c_10 => absurd (ge_end hk_9) c_10)
                    exact hE_9 τ_9 hI_9 hf2_9 _ _ _ hB_2 hP hD hS (lv_sub hl [1, 2, 3, 4, 5, 6, 7] rfl)
                  | succ n ih =>
                    intro k_9 τ_9 hk_9 hI_9 hf2_9 H locs ls hB_2 hP hD hS hl
                    obtain ⟨S_9, hB_9⟩ : ∃ s9, s_X9_goesB_l250 k_2 k_9 τ_9 = s9 := ⟨_, rfl⟩
                    have hB_2 : s_X9_goesB_c250 (iter (s_X9_goesB_l250 k_2) n (k_9 + 1) S_9) = S_2 := by rw [← hB_9]; exact hB_2
                    have hB_9 : (if (τ_9 45 k_9) = (nI k_2) then (if (τ_9 18 k_2) = (0 : Int32) then (put τ_9 43 k_9 ((τ_9 43 k_9) + (s_X9_partsOfHerd τ_9 (nI k_9)))) else (put τ_9 43 k_9 ((τ_9 43 k_9) + (0 : Int32)))) else (put τ_9 43 k_9 ((τ_9 43 k_9) + (0 : Int32)))) = S_9 := hB_9
                    refine lv_iload hx hb dX9_goes_250 (lv_at hl 0 rfl) ?_
                    refine lv_aload_n hx hb dX9_goes_252 rfl (lv_at hl 4 rfl) ?_
                    refine va_get (D := D) (ci := 9) (v := .int (τ_9 6 0)) (C := RX9) (T := TX9) (N := 51) hx hb hts hu9 hown hK hP 0 wm_0 rfl 6 (by decide) (hts (.fieldLink RX9 164 "GrazeBookModel" "herds" "I") (List.mem_cons_of_mem _ mw_789)) (fun _ h9 => h9) rfl dX9_goes_253 ?_
                    refine lv_icmp_ge (tgt := 304) hx hb dX9_goes_256 (by decide) (fun c_11 => absurd c_11 (ge_go hk_9)) (fun _ => ?_)
                    refine lv_aload_n hx hb dX9_goes_259 rfl (lv_at hl 4 rfl) ?_
                    refine va_get (D := D) (ci := 9) (v := .ref (ad 43)) (C := RX9) (T := TX9) (N := 51) hx hb hts hu9 hown hK hP 0 wm_0 rfl 43 (by decide) (hts (.fieldLink RX9 104 "GrazeBookModel" "hunger" "[I") (List.mem_cons_of_mem _ mw_826)) (fun _ h9 => h9) rfl dX9_goes_260 ?_
                    refine lv_iload hx hb dX9_goes_263 (lv_at hl 0 rfl) ?_
                    refine lv_dup2_11 hx hb dX9_goes_265 rfl rfl ?_
                    refine va_iald_k (k := k_9) (v := (τ_9 43 k_9)) hx hb hK hP 32 0 wm_a43 rfl (ix_cl hk_9) rfl (ix_loop (N := 20) hk_9 (ir_6 hI_9) (by decide) (by decide)) dX9_goes_266 ?_
                    refine lv_aload_n hx hb dX9_goes_267 rfl (lv_at hl 6 rfl) ?_
                    refine lv_iload hx hb dX9_goes_268 (lv_at hl 0 rfl) ?_
                    refine va_iald_k (k := k_9) (v := (τ_9 45 k_9)) hx hb hK hP 34 0 wm_a45 rfl (ix_cl hk_9) rfl (ix_loop (N := 20) hk_9 (ir_6 hI_9) (by decide) (by decide)) dX9_goes_270 ?_
                    refine lv_iload hx hb dX9_goes_271 (lv_at hl 1 rfl) ?_
                    refine lv_icmp_ne (tgt := 295) hx hb dX9_goes_273 (by decide) (fun c_12 => ?_) (fun c_12 => ?_)
                    · have hB_9 := (if_neg c_12).symm.trans hB_9
                      refine lv_iconst (v := (0 : Int32)) hx hb dX9_goes_295 (by decide) ?_
                      refine lv_iadd hx hb dX9_goes_296 ?_
                      refine va_iast_k (k := k_9) hx hb hK hP hD hS 32 0 wm_a43 rfl (ix_cl hk_9) (ix_loop (N := 20) hk_9 (ir_6 hI_9) (by decide) (by decide)) dX9_goes_297 (fun H locs hP hD hS => ?_)
                      rw [wm_s43] at hP hD
                      refine lv_iinc (v := (nI (k_9 + 1))) (lv' := [(10, .int (nI (k_9 + 1))), (7, .int (nI k_2)), (6, .int (τ_1 22 ((((10 : Int32) * (τ_1 23 (a1.toNatClampNeg))) + (τ_1 24 (a1.toNatClampNeg))).toNatClampNeg))), (5, .int (τ_1 23 (a1.toNatClampNeg))), (0, .ref h), (1, .ref (ad 44)), (2, .ref (ad 45)), (4, .ref (ad 46))]) hx hb dX9_goes_298 hl (k := 0) rfl (by rw [show Int32.ofInt 1 = 1 from by decide]; exact nI_1 _) (by decide) rfl (fun ls hl => ?_)
                      refine lv_goto (tgt := 250) hx hb dX9_goes_301 (by decide) ?_
                      subst hB_9
                      exact ih (k_9 + 1) (put τ_9 43 k_9 ((τ_9 43 k_9) + (0 : Int32))) (ge_next hk_9) hI_9 hf2_9 _ _ _ hB_2 hP hD hS (lv_sub hl [0, 1, 2, 3, 4, 5, 6, 7] rfl)
                    · have hB_9 := (if_pos c_12).symm.trans hB_9
                      refine lv_aload_n hx hb dX9_goes_276 rfl (lv_at hl 4 rfl) ?_
                      refine va_get (D := D) (ci := 9) (v := .ref (ad 18)) (C := RX9) (T := TX9) (N := 51) hx hb hts hu9 hown hK hP 0 wm_0 rfl 18 (by decide) (hts (.fieldLink RX9 28 "GrazeBookModel" "water" "[Z") (List.mem_cons_of_mem _ mw_801)) (fun _ h9 => h9) rfl dX9_goes_277 ?_
                      refine lv_iload hx hb dX9_goes_280 (lv_at hl 1 rfl) ?_
                      refine va_zald_k (k := k_2) (v := (τ_9 18 k_2)) hx hb hK hP 7 1 wm_a18 rfl (ix_cl hk_2) rfl (ix_loop (N := 6) hk_2 (ir_2 hI_2) (by decide) (by decide)) dX9_goes_282 ?_
                      refine lv_if_ne (tgt := 295) hx hb dX9_goes_283 (by decide) (fun c_13 => ?_) (fun c_13 => ?_)
                      · have hB_9 := (if_neg c_13).symm.trans hB_9
                        refine lv_iconst (v := (0 : Int32)) hx hb dX9_goes_295 (by decide) ?_
                        refine lv_iadd hx hb dX9_goes_296 ?_
                        refine va_iast_k (k := k_9) hx hb hK hP hD hS 32 0 wm_a43 rfl (ix_cl hk_9) (ix_loop (N := 20) hk_9 (ir_6 hI_9) (by decide) (by decide)) dX9_goes_297 (fun H locs hP hD hS => ?_)
                        rw [wm_s43] at hP hD
                        refine lv_iinc (v := (nI (k_9 + 1))) (lv' := [(10, .int (nI (k_9 + 1))), (7, .int (nI k_2)), (6, .int (τ_1 22 ((((10 : Int32) * (τ_1 23 (a1.toNatClampNeg))) + (τ_1 24 (a1.toNatClampNeg))).toNatClampNeg))), (5, .int (τ_1 23 (a1.toNatClampNeg))), (0, .ref h), (1, .ref (ad 44)), (2, .ref (ad 45)), (4, .ref (ad 46))]) hx hb dX9_goes_298 hl (k := 0) rfl (by rw [show Int32.ofInt 1 = 1 from by decide]; exact nI_1 _) (by decide) rfl (fun ls hl => ?_)
                        refine lv_goto (tgt := 250) hx hb dX9_goes_301 (by decide) ?_
                        subst hB_9
                        exact ih (k_9 + 1) (put τ_9 43 k_9 ((τ_9 43 k_9) + (0 : Int32))) (ge_next hk_9) hI_9 hf2_9 _ _ _ hB_2 hP hD hS (lv_sub hl [0, 1, 2, 3, 4, 5, 6, 7] rfl)
                      · have hB_9 := (if_pos c_13).symm.trans hB_9
                        refine lv_aload_n hx hb dX9_goes_286 rfl (lv_at hl 4 rfl) ?_
                        refine lv_iload hx hb dX9_goes_287 (lv_at hl 0 rfl) ?_
                        have hF := pw_free hD hS hA
                        refine va_calli (va_runV (As := [.int (nI k_9)]) (rest := [.int (τ_9 43 k_9), .int (nI k_9), .ref (ad 43)]) ⟨hx, hb, hml, hown, hts⟩ (k_X9_partsOfHerd l D ca h ad τ_9 (nI k_9) H.size hI_9 (ix_loop (N := 20) hk_9 (ir_6 hI_9) (by decide) (by decide)) _ rfl) (cwV 1 hts gX9_goes_X9_partsOfHerd rfl rfl rfl (by decide +kernel) ⟨Nat.le_of_ble_eq_true rfl, Nat.le_of_ble_eq_true rfl⟩) ⟨pw_blind, va_recv hK hP (ci := 9) (q0 := 0) rfl wm_0, pw_give hP hK hD⟩ rfl rfl hl.1 rfl (lv_room (Nat.le_of_ble_eq_true rfl)) dX9_goes_289 ⟨Nat.le_of_ble_eq_true rfl, Nat.le_of_ble_eq_true rfl⟩) hS (fun q _ h => hF q h) hF (fun r_14 u t H1 locs ht hvm hw hB hz1 hk1 hS => ?_)
                        subst hw
                        obtain ⟨hP, hD⟩ := pw_back hF ht hB
                        clear hB hk1 hz1 hF
                        generalize H1 = H at hP hS ⊢
                        refine lv_goto (tgt := 296) hx hb dX9_goes_292 (by decide) ?_
                        refine lv_iadd hx hb dX9_goes_296 ?_
                        refine va_iast_k (k := k_9) hx hb hK hP hD hS 32 0 wm_a43 rfl (ix_cl hk_9) (ix_loop (N := 20) hk_9 (ir_6 hI_9) (by decide) (by decide)) dX9_goes_297 (fun H locs hP hD hS => ?_)
                        rw [wm_s43] at hP hD
                        refine lv_iinc (v := (nI (k_9 + 1))) (lv' := [(10, .int (nI (k_9 + 1))), (7, .int (nI k_2)), (6, .int (τ_1 22 ((((10 : Int32) * (τ_1 23 (a1.toNatClampNeg))) + (τ_1 24 (a1.toNatClampNeg))).toNatClampNeg))), (5, .int (τ_1 23 (a1.toNatClampNeg))), (0, .ref h), (1, .ref (ad 44)), (2, .ref (ad 45)), (4, .ref (ad 46))]) hx hb dX9_goes_298 hl (k := 0) rfl (by rw [show Int32.ofInt 1 = 1 from by decide]; exact nI_1 _) (by decide) rfl (fun ls hl => ?_)
                        refine lv_goto (tgt := 250) hx hb dX9_goes_301 (by decide) ?_
                        subst hB_9
                        exact ih (k_9 + 1) (put τ_9 43 k_9 ((τ_9 43 k_9) + (s_X9_partsOfHerd τ_9 (nI k_9)))) (ge_next hk_9) hI_9 hf2_9 _ _ _ hB_2 hP hD hS (lv_sub hl [0, 1, 2, 3, 4, 5, 6, 7] rfl)
                exact hL_9 _ 0 τ_8 ⟨rfl, by decide⟩ hI_8 hf2_8 _ _ _ hB_2 hP hD hS (lv_sub hl [0, 1, 2, 3, 4, 5, 6, 7] rfl)
              refine lv_icmp_le (tgt := 247) hx hb dX9_goes_230 (by decide) (fun c_15 => ?_) (fun c_15 => ?_)
              · have hB_2 := (if_pos c_15).symm.trans hB_2
                exact hJ_8 (put (put τ_7 44 k_2 ((τ_7 44 k_2) - (if v8_5 < (τ_7 44 k_2) then v8_5 else (τ_7 44 k_2)))) 46 k_2 ((τ_7 46 k_2) + (if v8_5 < (τ_7 44 k_2) then v8_5 else (τ_7 44 k_2)))) (ir_put44 (σ := τ_7) hI_7 (eat_ok (ir_44 hI_7 k_2).1 (ir_44 hI_7 k_2).2 (show (100000 : Int) ≤ 100000 by decide) ha_5.1)) hf2_7 _ _ _ hB_2 hP hD hS (lv_sub hl [2, 3, 4, 5, 6, 7, 8] rfl)
              · have hB_2 := (if_neg c_15).symm.trans hB_2
                refine lv_aload_n hx hb dX9_goes_233 rfl (lv_at hl 5 rfl) ?_
                refine lv_aload_n hx hb dX9_goes_234 rfl (lv_at hl 7 rfl) ?_
                refine lv_iload hx hb dX9_goes_235 (lv_at hl 2 rfl) ?_
                refine lv_iload hx hb dX9_goes_237 (lv_at hl 1 rfl) ?_
                refine lv_iload hx hb dX9_goes_239 (lv_at hl 1 rfl) ?_
                refine lv_iload hx hb dX9_goes_241 (lv_at hl 0 rfl) ?_
                refine lv_isub hx hb dX9_goes_243 ?_
                have hF := pw_free hD hS hA
                refine va_callv (va_runV (As := [.ref (ad 45), .int (nI k_2), .int v8_5, .int (v8_5 - (if v8_5 < (τ_7 44 k_2) then v8_5 else (τ_7 44 k_2)))]) (rest := []) ⟨hx, hb, hml, hown, hts⟩ (k_X9_shares l D ca h ad (put (put τ_7 44 k_2 ((τ_7 44 k_2) - (if v8_5 < (τ_7 44 k_2) then v8_5 else (τ_7 44 k_2)))) 46 k_2 ((τ_7 46 k_2) + (if v8_5 < (τ_7 44 k_2) then v8_5 else (τ_7 44 k_2)))) (nI k_2) v8_5 (v8_5 - (if v8_5 < (τ_7 44 k_2) then v8_5 else (τ_7 44 k_2))) H.size (ir_put44 (σ := τ_7) hI_7 (eat_ok (ir_44 hI_7 k_2).1 (ir_44 hI_7 k_2).2 (show (100000 : Int) ≤ 100000 by decide) ha_5.1)) (nz_all (ir_44 hI_7 k_2).1 c_15) _ rfl) (cwV 4 hts gX9_goes_X9_shares rfl rfl rfl (by decide +kernel) ⟨Nat.le_of_ble_eq_true rfl, Nat.le_of_ble_eq_true rfl⟩) ⟨pw_blind, va_recv hK hP (ci := 9) (q0 := 0) rfl wm_0, pw_give hP hK hD⟩ rfl rfl hl.1 rfl (lv_room (Nat.le_of_ble_eq_true rfl)) dX9_goes_244 ⟨Nat.le_of_ble_eq_true rfl, Nat.le_of_ble_eq_true rfl⟩) hS (fun q _ h => hF q h) hF (fun u t H1 locs ht hvm hw hB hz1 hk1 hS => ?_)
                obtain ⟨hB, hI_17⟩ := hB
                obtain ⟨hP, hD⟩ := pw_back hF ht hB
                clear hB hk1 hz1 hF
                generalize H1 = H at hP hS ⊢
                exact hJ_8 (s_X9_shares (put (put τ_7 44 k_2 ((τ_7 44 k_2) - (if v8_5 < (τ_7 44 k_2) then v8_5 else (τ_7 44 k_2)))) 46 k_2 ((τ_7 46 k_2) + (if v8_5 < (τ_7 44 k_2) then v8_5 else (τ_7 44 k_2)))) (nI k_2) v8_5 (v8_5 - (if v8_5 < (τ_7 44 k_2) then v8_5 else (τ_7 44 k_2)))) hI_17 ((fr_s_X9_shares (put (put τ_7 44 k_2 ((τ_7 44 k_2) - (if v8_5 < (τ_7 44 k_2) then v8_5 else (τ_7 44 k_2)))) 46 k_2 ((τ_7 46 k_2) + (if v8_5 < (τ_7 44 k_2) then v8_5 else (τ_7 44 k_2)))) (nI k_2) v8_5 (v8_5 - (if v8_5 < (τ_7 44 k_2) then v8_5 else (τ_7 44 k_2))) (f := 2) (by decide)).trans hf2_7) _ _ _ hB_2 hP hD hS (lv_sub hl [2, 3, 4, 5, 6, 7, 8] rfl)
            refine lv_icmp_ge (tgt := 196) hx hb dX9_goes_151 (by decide) (fun c_18 => ?_) (fun c_18 => ?_)
            · have hB_2 := (if_pos c_18).symm.trans hB_2
              exact hJ_7 τ_6 hI_6 hf2_6 _ _ _ hB_2 hP hD hS (lv_sub hl [0, 1, 2, 3, 4, 5, 6, 7] rfl)
            · have hB_2 := (if_neg c_18).symm.trans hB_2
              refine lv_aload_n hx hb dX9_goes_154 rfl (lv_at hl 5 rfl) ?_
              refine lv_iload hx hb dX9_goes_155 (lv_at hl 1 rfl) ?_
              refine lv_aload_n hx hb dX9_goes_157 rfl (lv_at hl 4 rfl) ?_
              refine va_get (D := D) (ci := 9) (v := .ref (ad 14)) (C := RX9) (T := TX9) (N := 51) hx hb hts hu9 hown hK hP 0 wm_0 rfl 14 (by decide) (hts (.fieldLink RX9 16 "GrazeBookModel" "full" "[I") (List.mem_cons_of_mem _ mw_797)) (fun _ h9 => h9) rfl dX9_goes_158 ?_
              refine lv_iload hx hb dX9_goes_161 (lv_at hl 1 rfl) ?_
              refine va_iald_k (k := k_2) (v := (τ_6 14 k_2)) hx hb hK hP 3 0 wm_a14 rfl (ix_cl hk_2) rfl (ix_loop (N := 6) hk_2 (ir_2 hI_2) (by decide) (by decide)) dX9_goes_163 ?_
              refine lv_i2l (v := ((τ_6 14 k_2).toInt64)) hx hb dX9_goes_164 rfl ?_
              refine lv_aload_n hx hb dX9_goes_165 rfl (lv_at hl 5 rfl) ?_
              refine lv_iload hx hb dX9_goes_166 (lv_at hl 1 rfl) ?_
              refine va_iald_k (k := k_2) (v := (τ_6 44 k_2)) hx hb hK hP 33 0 wm_a44 rfl (ix_cl hk_2) rfl (ix_loop (N := 6) hk_2 (ir_2 hI_2) (by decide) (by decide)) dX9_goes_168 ?_
              refine lv_i2l (v := ((τ_6 44 k_2).toInt64)) hx hb dX9_goes_169 rfl ?_
              refine lv_lconst (v := 1) hx hb dX9_goes_170 (by decide) ?_
              refine lv_iload hx hb dX9_goes_171 (lv_at hl 2 rfl) ?_
              refine lv_i2l (v := ((τ_1 22 ((((10 : Int32) * (τ_1 23 (a1.toNatClampNeg))) + (τ_1 24 (a1.toNatClampNeg))).toNatClampNeg)).toInt64)) hx hb dX9_goes_173 rfl ?_
              refine lv_aload_n hx hb dX9_goes_174 rfl (lv_at hl 4 rfl) ?_
              refine va_get (D := D) (ci := 9) (v := .ref (ad 14)) (C := RX9) (T := TX9) (N := 51) hx hb hts hu9 hown hK hP 0 wm_0 rfl 14 (by decide) (hts (.fieldLink RX9 16 "GrazeBookModel" "full" "[I") (List.mem_cons_of_mem _ mw_797)) (fun _ h9 => h9) rfl dX9_goes_175 ?_
              refine lv_iload hx hb dX9_goes_178 (lv_at hl 1 rfl) ?_
              refine va_iald_k (k := k_2) (v := (τ_6 14 k_2)) hx hb hK hP 3 0 wm_a14 rfl (ix_cl hk_2) rfl (ix_loop (N := 6) hk_2 (ir_2 hI_2) (by decide) (by decide)) dX9_goes_180 ?_
              refine lv_i2l (v := ((τ_6 14 k_2).toInt64)) hx hb dX9_goes_181 rfl ?_
              refine lv_lmul hx hb dX9_goes_182 ?_
              refine lv_ldc2 (v := 1000) hx hb hown (hts (.constantLong RX9 194 (1000)) (List.mem_cons_of_mem _ mw_1059)) dX9_goes_183 ?_
              refine lv_ldiv hx hb dX9_goes_186 (by decide) ?_
              refine va_mmax_long hx hb (hml.trans hl.1.symm) hown (hts (.methodLink RX9 196 Lib.MathLoose.max_long.x) (List.mem_cons_of_mem _ mw_1060)) (hts (.static Lib.MathLoose.max_long.x) (List.mem_cons_of_mem _ mw_1061)) (hts (.initialized "java/lang/Math") (List.mem_cons_of_mem _ mw_68)) (hts (.code Lib.MathLoose.max_long.x Lib.MathLoose.max_long.code 4 (some .long)) (List.mem_cons_of_mem _ mw_1062)) (Nat.le_of_ble_eq_true rfl) (Nat.le_of_ble_eq_true rfl) (Nat.le_of_ble_eq_true rfl) (Nat.le_of_ble_eq_true rfl) dX9_goes_187 ?_
              refine lv_ladd hx hb dX9_goes_190 ?_
              refine va_mmin_long hx hb (hml.trans hl.1.symm) hown (hts (.methodLink RX9 199 Lib.MathLoose.min_long.x) (List.mem_cons_of_mem _ mw_1063)) (hts (.static Lib.MathLoose.min_long.x) (List.mem_cons_of_mem _ mw_1064)) (hts (.initialized "java/lang/Math") (List.mem_cons_of_mem _ mw_68)) (hts (.code Lib.MathLoose.min_long.x Lib.MathLoose.min_long.code 4 (some .long)) (List.mem_cons_of_mem _ mw_1065)) (Nat.le_of_ble_eq_true rfl) (Nat.le_of_ble_eq_true rfl) (Nat.le_of_ble_eq_true rfl) (Nat.le_of_ble_eq_true rfl) dX9_goes_191 ?_
              refine lv_l2i (v := ((if (((τ_6 44 k_2).toInt64) + (if ((((τ_1 22 ((((10 : Int32) * (τ_1 23 (a1.toNatClampNeg))) + (τ_1 24 (a1.toNatClampNeg))).toNatClampNeg)).toInt64) * ((τ_6 14 k_2).toInt64)) / (1000 : Int64)) < (1 : Int64) then (1 : Int64) else ((((τ_1 22 ((((10 : Int32) * (τ_1 23 (a1.toNatClampNeg))) + (τ_1 24 (a1.toNatClampNeg))).toNatClampNeg)).toInt64) * ((τ_6 14 k_2).toInt64)) / (1000 : Int64)))) < ((τ_6 14 k_2).toInt64) then (((τ_6 44 k_2).toInt64) + (if ((((τ_1 22 ((((10 : Int32) * (τ_1 23 (a1.toNatClampNeg))) + (τ_1 24 (a1.toNatClampNeg))).toNatClampNeg)).toInt64) * ((τ_6 14 k_2).toInt64)) / (1000 : Int64)) < (1 : Int64) then (1 : Int64) else ((((τ_1 22 ((((10 : Int32) * (τ_1 23 (a1.toNatClampNeg))) + (τ_1 24 (a1.toNatClampNeg))).toNatClampNeg)).toInt64) * ((τ_6 14 k_2).toInt64)) / (1000 : Int64)))) else ((τ_6 14 k_2).toInt64)).toInt32)) hx hb dX9_goes_194 rfl ?_
              refine va_iast_k (k := k_2) hx hb hK hP hD hS 33 0 wm_a44 rfl (ix_cl hk_2) (ix_loop (N := 6) hk_2 (ir_2 hI_2) (by decide) (by decide)) dX9_goes_195 (fun H locs hP hD hS => ?_)
              rw [wm_s44] at hP hD
              exact hJ_7 (put τ_6 44 k_2 ((if (((τ_6 44 k_2).toInt64) + (if ((((τ_1 22 ((((10 : Int32) * (τ_1 23 (a1.toNatClampNeg))) + (τ_1 24 (a1.toNatClampNeg))).toNatClampNeg)).toInt64) * ((τ_6 14 k_2).toInt64)) / (1000 : Int64)) < (1 : Int64) then (1 : Int64) else ((((τ_1 22 ((((10 : Int32) * (τ_1 23 (a1.toNatClampNeg))) + (τ_1 24 (a1.toNatClampNeg))).toNatClampNeg)).toInt64) * ((τ_6 14 k_2).toInt64)) / (1000 : Int64)))) < ((τ_6 14 k_2).toInt64) then (((τ_6 44 k_2).toInt64) + (if ((((τ_1 22 ((((10 : Int32) * (τ_1 23 (a1.toNatClampNeg))) + (τ_1 24 (a1.toNatClampNeg))).toNatClampNeg)).toInt64) * ((τ_6 14 k_2).toInt64)) / (1000 : Int64)) < (1 : Int64) then (1 : Int64) else ((((τ_1 22 ((((10 : Int32) * (τ_1 23 (a1.toNatClampNeg))) + (τ_1 24 (a1.toNatClampNeg))).toNatClampNeg)).toInt64) * ((τ_6 14 k_2).toInt64)) / (1000 : Int64)))) else ((τ_6 14 k_2).toInt64)).toInt32)) (ir_put44 (σ := τ_6) hI_6 ⟨(grow_ok (ir_44 hI_6 k_2).1 c_18 (ir_13 hI_6 k_2).2.2 (one_ok _) (one_le _)).1, Int.le_trans (grow_ok (ir_44 hI_6 k_2).1 c_18 (ir_13 hI_6 k_2).2.2 (one_ok _) (one_le _)).2 (ir_13 hI_6 k_2).2.2⟩) hf2_6 _ _ _ hB_2 hP hD hS (lv_sub hl [0, 1, 2, 3, 4, 5, 6, 7] rfl)
          refine lv_icmp_lt (tgt := 140) hx hb dX9_goes_114 (by decide) (fun c_19 => ?_) (fun c_19 => ?_)
          · have hB_2 := (if_pos c_19).symm.trans hB_2
            exact hJ_6 τ_2 hI_2 rfl _ _ _ hB_2 hP hD hS (lv_sub hl [0, 1, 2, 3, 4, 5, 6, 7] rfl)
          · have hB_2 := (if_neg c_19).symm.trans hB_2
            refine lv_iload hx hb dX9_goes_117 (lv_at hl 0 rfl) ?_
            refine lv_if_le (tgt := 140) hx hb dX9_goes_119 (by decide) (fun c_20 => ?_) (fun c_20 => ?_)
            · have hB_2 := (if_pos c_20).symm.trans hB_2
              exact hJ_6 τ_2 hI_2 rfl _ _ _ hB_2 hP hD hS (lv_sub hl [0, 1, 2, 3, 4, 5, 6, 7] rfl)
            · have hB_2 := (if_neg c_20).symm.trans hB_2
              refine lv_aload_n hx hb dX9_goes_122 rfl (lv_at hl 5 rfl) ?_
              refine lv_iload hx hb dX9_goes_123 (lv_at hl 1 rfl) ?_
              refine lv_iconst (v := (0 : Int32)) hx hb dX9_goes_125 (by decide) ?_
              refine lv_aload_n hx hb dX9_goes_126 rfl (lv_at hl 5 rfl) ?_
              refine lv_iload hx hb dX9_goes_127 (lv_at hl 1 rfl) ?_
              refine va_iald_k (k := k_2) (v := (τ_2 44 k_2)) hx hb hK hP 33 0 wm_a44 rfl (ix_cl hk_2) rfl (ix_loop (N := 6) hk_2 (ir_2 hI_2) (by decide) (by decide)) dX9_goes_129 ?_
              refine lv_iload hx hb dX9_goes_130 (lv_at hl 0 rfl) ?_
              refine lv_bipush (v := (100 : Int32)) hx hb dX9_goes_132 (by decide) ?_
              refine lv_idiv hx hb dX9_goes_134 (by decide) ?_
              refine lv_isub hx hb dX9_goes_135 ?_
              refine va_mmax hx hb (hml.trans hl.1.symm) hown (hts (.methodLink RX9 179 Lib.Math.max.name) (List.mem_cons_of_mem _ mw_1026)) (hts (.static Lib.Math.max.name) (List.mem_cons_of_mem _ mw_520)) (hts (.initialized "java/lang/Math") (List.mem_cons_of_mem _ mw_68)) (hts (.code Lib.Math.max.name Lib.Math.max.code 2 (some .int)) (List.mem_cons_of_mem _ mw_521)) (Nat.le_of_ble_eq_true rfl) (Nat.le_of_ble_eq_true rfl) (Nat.le_of_ble_eq_true rfl) (Nat.le_of_ble_eq_true rfl) dX9_goes_136 ?_
              refine va_iast_k (k := k_2) hx hb hK hP hD hS 33 0 wm_a44 rfl (ix_cl hk_2) (ix_loop (N := 6) hk_2 (ir_2 hI_2) (by decide) (by decide)) dX9_goes_139 (fun H locs hP hD hS => ?_)
              rw [wm_s44] at hP hD
              exact hJ_6 (put τ_2 44 k_2 (if (0 : Int32) < ((τ_2 44 k_2) - (v8_5 / (100 : Int32))) then ((τ_2 44 k_2) - (v8_5 / (100 : Int32))) else (0 : Int32))) (ir_put44 (σ := τ_2) hI_2 (tread_ok (ir_44 hI_2 k_2).1 (ir_44 hI_2 k_2).2 (show (100000 : Int) ≤ 100000 by decide) c_20)) rfl _ _ _ hB_2 hP hD hS (lv_sub hl [0, 1, 2, 3, 4, 5, 6, 7] rfl)
        have hL_5 : ∀ (n k_5 : Nat) (v8_5 : Int32) (hk_5 : lpk (τ_2 6 0) k_5 n) (ha_5 : 0 ≤ v8_5.toInt ∧ v8_5.toInt ≤ 4500 * (k_5 : Int) ∧ k_5 ≤ 20) (H : Heap) (locs : List Loc) (ls : Array Slot), s_X9_goesB_c71 a1 τ_1 k_2 τ_2 (iter (s_X9_goesB_l71 k_2 τ_2) n k_5 v8_5) = S_2 → va_P D vwCl (WM ca h ad τ_2) H → va_D A (WM ca h ad τ_2) → va_S A s.heap H locs → lv_has ls 11 [(9, .int (nI k_5)), (8, .int v8_5), (7, .int (nI k_2)), (6, .int (τ_1 22 ((((10 : Int32) * (τ_1 23 (a1.toNatClampNeg))) + (τ_1 24 (a1.toNatClampNeg))).toNatClampNeg))), (5, .int (τ_1 23 (a1.toNatClampNeg))), (0, .ref h), (1, .ref (ad 44)), (2, .ref (ad 45)), (4, .ref (ad 46))] → W p l e ((headSpec wsX9_goes ({ frames := 3, cells := 0, slots := 0, locals := 73 })).room) s m ([.ref h, .ref (ad 44), .ref (ad 45), .int a1, .ref (ad 46)] : List Value).toArray below meth c H locs 0 0 QQ (F0 m 71 ls []) := by
          intro n
          induction n with
          | zero =>
            intro k_5 v8_5 hk_5 ha_5 H locs ls hB_2 hP hD hS hl
            refine lv_iload hx hb dX9_goes_71 (lv_at hl 0 rfl) ?_
            refine lv_aload_n hx hb dX9_goes_73 rfl (lv_at hl 5 rfl) ?_
            refine va_get (D := D) (ci := 9) (v := .int (τ_2 6 0)) (C := RX9) (T := TX9) (N := 51) hx hb hts hu9 hown hK hP 0 wm_0 rfl 6 (by decide) (hts (.fieldLink RX9 164 "GrazeBookModel" "herds" "I") (List.mem_cons_of_mem _ mw_789)) (fun _ h9 => h9) rfl dX9_goes_74 ?_
            refine lv_icmp_ge (tgt := 110) hx hb dX9_goes_77 (by decide) (fun _ => ?_) (fun c_21 => absurd (ge_end hk_5) c_21)
            exact hE_5 v8_5 (⟨ha_5.1, by have := ha_5; omega⟩) _ _ _ hB_2 hP hD hS (lv_sub hl [1, 2, 3, 4, 5, 6, 7, 8] rfl)
          | succ n ih =>
            intro k_5 v8_5 hk_5 ha_5 H locs ls hB_2 hP hD hS hl
            obtain ⟨S_5, hB_5⟩ : ∃ s9, s_X9_goesB_l71 k_2 τ_2 k_5 v8_5 = s9 := ⟨_, rfl⟩
            have hB_2 : s_X9_goesB_c71 a1 τ_1 k_2 τ_2 (iter (s_X9_goesB_l71 k_2 τ_2) n (k_5 + 1) S_5) = S_2 := by rw [← hB_5]; exact hB_2
            have hB_5 : (if (τ_2 45 k_5) = (nI k_2) then (v8_5 + (s_X9_partsOfHerd τ_2 (nI k_5))) else (v8_5 + (0 : Int32))) = S_5 := hB_5
            refine lv_iload hx hb dX9_goes_71 (lv_at hl 0 rfl) ?_
            refine lv_aload_n hx hb dX9_goes_73 rfl (lv_at hl 5 rfl) ?_
            refine va_get (D := D) (ci := 9) (v := .int (τ_2 6 0)) (C := RX9) (T := TX9) (N := 51) hx hb hts hu9 hown hK hP 0 wm_0 rfl 6 (by decide) (hts (.fieldLink RX9 164 "GrazeBookModel" "herds" "I") (List.mem_cons_of_mem _ mw_789)) (fun _ h9 => h9) rfl dX9_goes_74 ?_
            refine lv_icmp_ge (tgt := 110) hx hb dX9_goes_77 (by decide) (fun c_22 => absurd c_22 (ge_go hk_5)) (fun _ => ?_)
            refine lv_iload hx hb dX9_goes_80 (lv_at hl 1 rfl) ?_
            refine lv_aload_n hx hb dX9_goes_82 rfl (lv_at hl 7 rfl) ?_
            refine lv_iload hx hb dX9_goes_83 (lv_at hl 0 rfl) ?_
            refine va_iald_k (k := k_5) (v := (τ_2 45 k_5)) hx hb hK hP 34 0 wm_a45 rfl (ix_cl hk_5) rfl (ix_loop (N := 20) hk_5 (ir_6 hI_2) (by decide) (by decide)) dX9_goes_85 ?_
            refine lv_iload hx hb dX9_goes_86 (lv_at hl 2 rfl) ?_
            refine lv_icmp_ne (tgt := 100) hx hb dX9_goes_88 (by decide) (fun c_23 => ?_) (fun c_23 => ?_)
            · have hB_5 := (if_neg c_23).symm.trans hB_5
              refine lv_iconst (v := (0 : Int32)) hx hb dX9_goes_100 (by decide) ?_
              refine lv_iadd hx hb dX9_goes_101 ?_
              refine lv_istore (lv' := [(8, .int (v8_5 + (0 : Int32))), (9, .int (nI k_5)), (7, .int (nI k_2)), (6, .int (τ_1 22 ((((10 : Int32) * (τ_1 23 (a1.toNatClampNeg))) + (τ_1 24 (a1.toNatClampNeg))).toNatClampNeg))), (5, .int (τ_1 23 (a1.toNatClampNeg))), (0, .ref h), (1, .ref (ad 44)), (2, .ref (ad 45)), (4, .ref (ad 46))]) hx hb dX9_goes_102 hl (by decide) rfl (fun ls hl => ?_)
              refine lv_iinc (v := (nI (k_5 + 1))) (lv' := [(9, .int (nI (k_5 + 1))), (8, .int (v8_5 + (0 : Int32))), (7, .int (nI k_2)), (6, .int (τ_1 22 ((((10 : Int32) * (τ_1 23 (a1.toNatClampNeg))) + (τ_1 24 (a1.toNatClampNeg))).toNatClampNeg))), (5, .int (τ_1 23 (a1.toNatClampNeg))), (0, .ref h), (1, .ref (ad 44)), (2, .ref (ad 45)), (4, .ref (ad 46))]) hx hb dX9_goes_104 hl (k := 1) rfl (by rw [show Int32.ofInt 1 = 1 from by decide]; exact nI_1 _) (by decide) rfl (fun ls hl => ?_)
              refine lv_goto (tgt := 71) hx hb dX9_goes_107 (by decide) ?_
              subst hB_5
              exact ih (k_5 + 1) (v8_5 + (0 : Int32)) (ge_next hk_5) (all_ok ha_5 (show 0 ≤ (0 : Int32).toInt ∧ (0 : Int32).toInt ≤ 4500 by decide) (k_lt hk_5 (ir_6 hI_2))) _ _ _ hB_2 hP hD hS (lv_sub hl [0, 1, 2, 3, 4, 5, 6, 7, 8] rfl)
            · have hB_5 := (if_pos c_23).symm.trans hB_5
              refine lv_aload_n hx hb dX9_goes_91 rfl (lv_at hl 5 rfl) ?_
              refine lv_iload hx hb dX9_goes_92 (lv_at hl 0 rfl) ?_
              have hF := pw_free hD hS hA
              refine va_calli (va_runV (As := [.int (nI k_5)]) (rest := [.int v8_5]) ⟨hx, hb, hml, hown, hts⟩ (k_X9_partsOfHerd l D ca h ad τ_2 (nI k_5) H.size hI_2 (ix_loop (N := 20) hk_5 (ir_6 hI_2) (by decide) (by decide)) _ rfl) (cwV 1 hts gX9_goes_X9_partsOfHerd rfl rfl rfl (by decide +kernel) ⟨Nat.le_of_ble_eq_true rfl, Nat.le_of_ble_eq_true rfl⟩) ⟨pw_blind, va_recv hK hP (ci := 9) (q0 := 0) rfl wm_0, pw_give hP hK hD⟩ rfl rfl hl.1 rfl (lv_room (Nat.le_of_ble_eq_true rfl)) dX9_goes_94 ⟨Nat.le_of_ble_eq_true rfl, Nat.le_of_ble_eq_true rfl⟩) hS (fun q _ h => hF q h) hF (fun r_24 u t H1 locs ht hvm hw hB hz1 hk1 hS => ?_)
              subst hw
              obtain ⟨hP, hD⟩ := pw_back hF ht hB
              clear hB hk1 hz1 hF
              generalize H1 = H at hP hS ⊢
              refine lv_goto (tgt := 101) hx hb dX9_goes_97 (by decide) ?_
              refine lv_iadd hx hb dX9_goes_101 ?_
              refine lv_istore (lv' := [(8, .int (v8_5 + (s_X9_partsOfHerd τ_2 (nI k_5)))), (9, .int (nI k_5)), (7, .int (nI k_2)), (6, .int (τ_1 22 ((((10 : Int32) * (τ_1 23 (a1.toNatClampNeg))) + (τ_1 24 (a1.toNatClampNeg))).toNatClampNeg))), (5, .int (τ_1 23 (a1.toNatClampNeg))), (0, .ref h), (1, .ref (ad 44)), (2, .ref (ad 45)), (4, .ref (ad 46))]) hx hb dX9_goes_102 hl (by decide) rfl (fun ls hl => ?_)
              refine lv_iinc (v := (nI (k_5 + 1))) (lv' := [(9, .int (nI (k_5 + 1))), (8, .int (v8_5 + (s_X9_partsOfHerd τ_2 (nI k_5)))), (7, .int (nI k_2)), (6, .int (τ_1 22 ((((10 : Int32) * (τ_1 23 (a1.toNatClampNeg))) + (τ_1 24 (a1.toNatClampNeg))).toNatClampNeg))), (5, .int (τ_1 23 (a1.toNatClampNeg))), (0, .ref h), (1, .ref (ad 44)), (2, .ref (ad 45)), (4, .ref (ad 46))]) hx hb dX9_goes_104 hl (k := 1) rfl (by rw [show Int32.ofInt 1 = 1 from by decide]; exact nI_1 _) (by decide) rfl (fun ls hl => ?_)
              refine lv_goto (tgt := 71) hx hb dX9_goes_107 (by decide) ?_
              subst hB_5
              exact ih (k_5 + 1) (v8_5 + (s_X9_partsOfHerd τ_2 (nI k_5))) (ge_next hk_5) (all_ok ha_5 (ph_ok hI_2 _) (k_lt hk_5 (ir_6 hI_2))) _ _ _ hB_2 hP hD hS (lv_sub hl [0, 1, 2, 3, 4, 5, 6, 7, 8] rfl)
        exact hL_5 _ 0 (0 : Int32) ⟨rfl, by decide⟩ (⟨by decide, by decide, by decide⟩) _ _ _ hB_2 hP hD hS (lv_sub hl [0, 1, 2, 3, 4, 5, 6, 7, 8] rfl)
    exact hL_2 _ 0 τ_1 ⟨rfl, by decide⟩ hI_1 _ _ _ hR hP hD hS (lv_sub hl [0, 1, 2, 3, 4, 5, 7] rfl)
  have hL_1 : ∀ (n k_1 : Nat) (τ_1 : St) (hk_1 : lpk (τ_1 6 0) k_1 n) (hI_1 : IR τ_1) (H : Heap) (locs : List Loc) (ls : Array Slot), s_X9_goesB_c3 a1 (iter s_X9_goesB_l3 n k_1 τ_1) = R → va_P D vwCl (WM ca h ad τ_1) H → va_D A (WM ca h ad τ_1) → va_S A s.heap H locs → lv_has ls 11 [(5, .int (nI k_1)), (0, .ref h), (1, .ref (ad 44)), (2, .ref (ad 45)), (3, .int a1), (4, .ref (ad 46))] → W p l e ((headSpec wsX9_goes ({ frames := 3, cells := 0, slots := 0, locals := 73 })).room) s m ([.ref h, .ref (ad 44), .ref (ad 45), .int a1, .ref (ad 46)] : List Value).toArray below meth c H locs 0 0 QQ (F0 m 3 ls []) := by
    intro n
    induction n with
    | zero =>
      intro k_1 τ_1 hk_1 hI_1 H locs ls hR hP hD hS hl
      refine lv_iload hx hb dX9_goes_3 (lv_at hl 0 rfl) ?_
      refine lv_aload_n hx hb dX9_goes_5 rfl (lv_at hl 1 rfl) ?_
      refine va_get (D := D) (ci := 9) (v := .int (τ_1 6 0)) (C := RX9) (T := TX9) (N := 51) hx hb hts hu9 hown hK hP 0 wm_0 rfl 6 (by decide) (hts (.fieldLink RX9 164 "GrazeBookModel" "herds" "I") (List.mem_cons_of_mem _ mw_789)) (fun _ h9 => h9) rfl dX9_goes_6 ?_
      refine lv_icmp_ge (tgt := 26) hx hb dX9_goes_9 (by decide) (fun _ => ?_) (fun c_25 => absurd (ge_end hk_1) c_25)
      exact hE_1 τ_1 hI_1 _ _ _ hR hP hD hS (lv_sub hl [1, 2, 3, 4, 5] rfl)
    | succ n ih =>
      intro k_1 τ_1 hk_1 hI_1 H locs ls hR hP hD hS hl
      obtain ⟨S_1, hB_1⟩ : ∃ s9, s_X9_goesB_l3 k_1 τ_1 = s9 := ⟨_, rfl⟩
      have hR : s_X9_goesB_c3 a1 (iter s_X9_goesB_l3 n (k_1 + 1) S_1) = R := by rw [← hB_1]; exact hR
      have hB_1 : (put τ_1 43 k_1 (0 : Int32)) = S_1 := hB_1
      refine lv_iload hx hb dX9_goes_3 (lv_at hl 0 rfl) ?_
      refine lv_aload_n hx hb dX9_goes_5 rfl (lv_at hl 1 rfl) ?_
      refine va_get (D := D) (ci := 9) (v := .int (τ_1 6 0)) (C := RX9) (T := TX9) (N := 51) hx hb hts hu9 hown hK hP 0 wm_0 rfl 6 (by decide) (hts (.fieldLink RX9 164 "GrazeBookModel" "herds" "I") (List.mem_cons_of_mem _ mw_789)) (fun _ h9 => h9) rfl dX9_goes_6 ?_
      refine lv_icmp_ge (tgt := 26) hx hb dX9_goes_9 (by decide) (fun c_26 => absurd c_26 (ge_go hk_1)) (fun _ => ?_)
      refine lv_aload_n hx hb dX9_goes_12 rfl (lv_at hl 1 rfl) ?_
      refine va_get (D := D) (ci := 9) (v := .ref (ad 43)) (C := RX9) (T := TX9) (N := 51) hx hb hts hu9 hown hK hP 0 wm_0 rfl 43 (by decide) (hts (.fieldLink RX9 104 "GrazeBookModel" "hunger" "[I") (List.mem_cons_of_mem _ mw_826)) (fun _ h9 => h9) rfl dX9_goes_13 ?_
      refine lv_iload hx hb dX9_goes_16 (lv_at hl 0 rfl) ?_
      refine lv_iconst (v := (0 : Int32)) hx hb dX9_goes_18 (by decide) ?_
      refine va_iast_k (k := k_1) hx hb hK hP hD hS 32 0 wm_a43 rfl (ix_cl hk_1) (ix_loop (N := 20) hk_1 (ir_6 hI_1) (by decide) (by decide)) dX9_goes_19 (fun H locs hP hD hS => ?_)
      rw [wm_s43] at hP hD
      refine lv_iinc (v := (nI (k_1 + 1))) (lv' := [(5, .int (nI (k_1 + 1))), (0, .ref h), (1, .ref (ad 44)), (2, .ref (ad 45)), (3, .int a1), (4, .ref (ad 46))]) hx hb dX9_goes_20 hl (k := 0) rfl (by rw [show Int32.ofInt 1 = 1 from by decide]; exact nI_1 _) (by decide) rfl (fun ls hl => ?_)
      refine lv_goto (tgt := 3) hx hb dX9_goes_23 (by decide) ?_
      subst hB_1
      exact ih (k_1 + 1) (put τ_1 43 k_1 (0 : Int32)) (ge_next hk_1) hI_1 _ _ _ hR hP hD hS (lv_sub hl [0, 1, 2, 3, 4, 5] rfl)
  exact hL_1 _ 0 σ ⟨rfl, by decide⟩ hI _ _ _ hR hP hD hS (lv_sub hl [0, 1, 2, 3, 4, 5] rfl)

