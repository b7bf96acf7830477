def s_X9_over_c32 (σ : St) : (Int32 × Int32 × Int32) → Int32 × St := fun x9 => match x9 with
  | (v5_4, v4_4, v3_4) => ((0 : Int32), σ)
def s_X9_over_c32r (σ : St) : Sum (Int32 × St) (Int32 × Int32 × Int32) → Int32 × St := fun x9 => match x9 with
  | .inl r => r
  | .inr s => s_X9_over_c32 σ s
def s_X9_over_c48 (σ : St) (a2 : Int32) (v5_4 : Int32) (v3_4 : Int32) : Int32 → Sum (Int32 × St) (Int32 × Int32 × Int32) := fun x9 => match x9 with
  | v6_6 => (if v5_4 = a2 then (Sum.inl (v6_6, σ)) else (Sum.inr ((v5_4 + (1 : Int32)), (σ 39 (v6_6.toNatClampNeg)), (v3_4 - (s_X9_partsOfHerd σ v6_6)))))
def s_X9_over_l48 (σ : St) (a1 : Int32) (v4_4 : Int32) (k_6 : Nat) : Int32 → Int32 := fun x9 => match x9 with
  | v6_6 => (if (s_X9_isOut σ (nI k_6)) = (0 : Int32) then v6_6 else (if (σ 38 k_6) = a1 then (if v4_4 ≤ (σ 39 k_6) then v6_6 else (if v6_6 < (0 : Int32) then (nI k_6) else (if (σ 39 k_6) ≤ (σ 39 (v6_6.toNatClampNeg)) then v6_6 else (nI k_6)))) else v6_6))
def s_X9_over_l32 (σ : St) (a1 : Int32) (a2 : Int32) (k_4 : Nat) : (Int32 × Int32 × Int32) → Sum (Int32 × St) (Int32 × Int32 × Int32) := fun x9 => match x9 with
  | (v5_4, v4_4, v3_4) => (if v3_4 ≤ (σ 15 (a1.toNatClampNeg)) then (Sum.inl ((-9 : Int32), σ)) else (s_X9_over_c48 σ a2 v5_4 v3_4 (iter (s_X9_over_l48 σ a1 v4_4) ((σ 6 0).toNatClampNeg - 0) 0 (-1 : Int32))))
/-- the herd that went out last: none, or the one of the greatest order -/
theorem ov_last (σ : St) (p b : Int32) : ∀ n : Nat, n ≤ 20 → (iter (s_X9_over_l48 σ p b) n 0 (-1 : Int32) = (-1 : Int32) ∧ ∀ h, h < n → ¬ onP σ p b h) ∨ (∃ j : Nat, j < n ∧ iter (s_X9_over_l48 σ p b) n 0 (-1 : Int32) = nI j ∧ onP σ p b j ∧ ∀ h, h < n → onP σ p b h → σ 39 h ≤ σ 39 j)
  | 0, _ => Or.inl ⟨rfl, fun h hh => absurd hh (Nat.not_lt_zero h)⟩
  | n + 1, hn => by
    have ih := ov_last σ p b n (by omega)
    rw [iter_snoc, Nat.zero_add]
    generalize iter (s_X9_over_l48 σ p b) n 0 (-1 : Int32) = r at ih
    by_cases hon : onP σ p b n
    · obtain ⟨h1, h2, h3⟩ := hon
      rcases ih with ⟨e, hno⟩ | ⟨j, hj, e, hoj, hmax⟩
      · right
        refine ⟨n, by omega, ?_, ⟨h1, h2, h3⟩, fun h hh ho => ?_⟩
        · subst e
          unfold s_X9_over_l48
          dsimp only
          rw [if_neg h1, if_pos h2, if_neg h3, if_pos (by decide)]
        · by_cases e2 : h = n
          · rw [e2]; exact Int32.le_refl _
          · exact absurd ho (hno h (by omega))
      · subst e
        have hc : (nI j).toNatClampNeg = j := nI_clamp (by omega)
        have hp : ¬ nI j < 0 := nI_pos (by omega)
        right
        by_cases hle : σ 39 n ≤ σ 39 j
        · refine ⟨j, by omega, ?_, hoj, fun h hh ho => ?_⟩
          · unfold s_X9_over_l48
            dsimp only
            rw [if_neg h1, if_pos h2, if_neg h3, if_neg hp, hc, if_pos hle]
          · by_cases e2 : h = n
            · rw [e2]; exact hle
            · exact hmax h (by omega) ho
        · refine ⟨n, by omega, ?_, ⟨h1, h2, h3⟩, fun h hh ho => ?_⟩
          · unfold s_X9_over_l48
            dsimp only
            rw [if_neg h1, if_pos h2, if_neg h3, if_neg hp, hc, if_neg hle]
          · by_cases e2 : h = n
            · rw [e2]; exact Int32.le_refl _
            · have a := hmax h (by omega) ho
              rw [Int32.le_iff_toInt_le] at a hle ⊢
              omega
    · have e : s_X9_over_l48 σ p b n r = r := by
        unfold s_X9_over_l48
        dsimp only
        unfold onP at hon
        by_cases g1 : s_X9_isOut σ (nI n) = 0
        · rw [if_pos g1]
        · rw [if_neg g1]
          by_cases g2 : σ 38 n = p
          · rw [if_pos g2]
            by_cases g3 : b ≤ σ 39 n
            · rw [if_pos g3]
            · exact absurd ⟨g1, g2, g3⟩ hon
          · rw [if_neg g2]
      rw [e]
      rcases ih with ⟨e2, hno⟩ | ⟨j, hj, e2, hoj, hmax⟩
      · exact Or.inl ⟨e2, fun h hh => by
          by_cases e3 : h = n
          · rw [e3]; exact hon
          · exact hno h (by omega)⟩
      · exact Or.inr ⟨j, by omega, e2, hoj, fun h hh ho => by
          by_cases e3 : h = n
          · rw [e3] at ho; exact absurd ho hon
          · exact hmax h (by omega) ho⟩
theorem onV_no {σ : St} {p b : Int32} {h : Nat} (hn : ¬ onP σ p b h) : onV σ p b h = 0 := if_neg hn
theorem onV_yes {σ : St} {p b : Int32} {h : Nat} (hn : onP σ p b h) : onV σ p b h = (s_X9_partsOfHerd σ (nI h)).toInt := if_pos hn
theorem onC_no {σ : St} {p b : Int32} {h : Nat} (hn : ¬ onP σ p b h) : onC σ p b h = 0 := if_neg hn
theorem onC_yes {σ : St} {p b : Int32} {h : Nat} (hn : onP σ p b h) : onC σ p b h = 1 := if_pos hn
theorem ov_step {σ : St} (hI : IR σ) (hJ : JR σ) {p left b v : Int32} {n q : Nat} (h : OV σ p left b (n + 1)) (hc : ¬ left ≤ σ 15 q) (hv : v = iter (s_X9_over_l48 σ p b) ((σ 6 0).toNatClampNeg - 0) 0 (-1 : Int32)) : vp_in v 20 ∧ OV σ p (left - s_X9_partsOfHerd σ v) (σ 39 v.toNatClampNeg) n := by
  have hN : (σ 6 0).toNatClampNeg ≤ 20 := by have := ir_6 hI; rw [tn_toInt]; omega
  rw [Nat.sub_zero] at hv
  have hb := hJ.1 q
  rw [Int32.le_iff_toInt_le] at hc
  rcases ov_last σ p b _ hN with ⟨e, hno⟩ | ⟨j, hj, e, hoj, hmax⟩
  · have h1 := h.1
    rw [sI_zero (fun h hh => onV_no (hno h hh))] at h1
    omega
  · rw [e] at hv
    subst hv
    have hc2 : (nI j).toNatClampNeg = j := nI_clamp (by omega)
    rw [hc2]
    have key : ∀ h : Nat, h < (σ 6 0).toNatClampNeg → (onP σ p (σ 39 j) h ↔ onP σ p b h ∧ h ≠ j) := by
      intro h hh
      constructor
      · intro ⟨a1, a2, a3⟩
        refine ⟨⟨a1, a2, fun hx => ?_⟩, fun hx => ?_⟩
        · have hj3 := hoj.2.2
          rw [Int32.le_iff_toInt_le] at hx a3 hj3
          omega
        · subst hx
          exact a3 (Int32.le_refl _)
      · intro ⟨ho, hne⟩
        refine ⟨ho.1, ho.2.1, fun hx => ?_⟩
        have a := hmax h hh ho
        have d := hJ.2.2.1 h j hh hj hne (isOut_oP (by omega) ho.1) (isOut_oP (by omega) hoj.1)
        rw [← Int32.toInt_inj] at d
        rw [Int32.le_iff_toInt_le] at a hx
        omega
    have eV : ∀ h : Nat, h < (σ 6 0).toNatClampNeg → onV σ p (σ 39 j) h = if h = j then 0 else onV σ p b h := by
      intro h hh
      by_cases e1 : h = j
      · rw [if_pos e1, onV_no (fun ho => ((key h hh).mp ho).2 e1)]
      · rw [if_neg e1]
        by_cases e2 : onP σ p b h
        · rw [onV_yes e2, onV_yes ((key h hh).mpr ⟨e2, e1⟩)]
        · rw [onV_no e2, onV_no (fun ho => e2 ((key h hh).mp ho).1)]
    have eC : ∀ h : Nat, h < (σ 6 0).toNatClampNeg → onC σ p (σ 39 j) h = if h = j then 0 else onC σ p b h := by
      intro h hh
      by_cases e1 : h = j
      · rw [if_pos e1, onC_no (fun ho => ((key h hh).mp ho).2 e1)]
      · rw [if_neg e1]
        by_cases e2 : onP σ p b h
        · rw [onC_yes e2, onC_yes ((key h hh).mpr ⟨e2, e1⟩)]
        · rw [onC_no e2, onC_no (fun ho => e2 ((key h hh).mp ho).1)]
    have sV := sI_drop eV
    have sC := sI_drop eC
    rw [if_pos hj, onV_yes hoj] at sV
    rw [if_pos hj, onC_yes hoj] at sC
    have hp := ph_ok hI (nI j)
    have h1 := h.1
    have h2 := h.2
    have hl := left.toInt_lt
    have nn : 0 ≤ sI (onV σ p (σ 39 j)) (σ 6 0).toNatClampNeg := sI_nonneg (fun h => by
      by_cases e2 : onP σ p (σ 39 j) h
      · rw [onV_yes e2]; exact (ph_ok hI _).1
      · rw [onV_no e2]; exact Int.le_refl _) _
    refine ⟨vp_in_nI (by omega) (by decide), ?_, by omega⟩
    rw [sub_ti (by omega) (by omega)]
    omega
theorem ov_start {σ : St} (hI : IR σ) (hJ : JR σ) (p : Int32) : OV σ p (s_X9_partsOn σ p) (σ 7 0) (1 + (σ 6 0).toNatClampNeg) := by
  have hN : (σ 6 0).toNatClampNeg ≤ 20 := by have := ir_6 hI; rw [tn_toInt]; omega
  have key : ∀ n : Nat, n ≤ (σ 6 0).toNatClampNeg → (iter (s_X9_partsOn_l4 σ p) n 0 (0 : Int32)).toInt = sI (onV σ p (σ 7 0)) n ∧ sI (onV σ p (σ 7 0)) n ≤ 4500 * n ∧ 0 ≤ sI (onV σ p (σ 7 0)) n := by
    intro n
    induction n with
    | zero => intro _; exact ⟨rfl, by show (0 : Int) ≤ _; omega, Int.le_refl _⟩
    | succ n ih =>
      intro hn
      obtain ⟨a, b, c⟩ := ih (by omega)
      have hp := ph_ok hI (nI n)
      rw [iter_snoc, Nat.zero_add]
      generalize iter (s_X9_partsOn_l4 σ p) n 0 (0 : Int32) = r at a
      have e0 : (0 : Int32).toInt = 0 := by decide
      show (s_X9_partsOn_l4 σ p n r).toInt = sI (onV σ p (σ 7 0)) n + onV σ p (σ 7 0) n ∧ sI (onV σ p (σ 7 0)) n + onV σ p (σ 7 0) n ≤ 4500 * ((n + 1 : Nat) : Int) ∧ 0 ≤ sI (onV σ p (σ 7 0)) n + onV σ p (σ 7 0) n
      by_cases ho : onP σ p (σ 7 0) n
      · rw [onV_yes ho]
        have e : s_X9_partsOn_l4 σ p n r = r + s_X9_partsOfHerd σ (nI n) := by
          unfold s_X9_partsOn_l4
          dsimp only
          rw [if_neg ho.1, if_pos ho.2.1]
        rw [e, add_ti (by omega) (by omega)]
        omega
      · rw [onV_no ho]
        have e : s_X9_partsOn_l4 σ p n r = r + 0 := by
          unfold s_X9_partsOn_l4
          dsimp only
          by_cases g1 : s_X9_isOut σ (nI n) = 0
          · rw [if_pos g1]
          · rw [if_neg g1]
            by_cases g2 : σ 38 n = p
            · exact absurd ⟨g1, g2, hJ.2.1 n (by omega) (isOut_oP (by omega) g1)⟩ ho
            · rw [if_neg g2]
        rw [e, add_ti (by rw [e0]; omega) (by rw [e0]; omega), e0]
        omega
  refine ⟨?_, ?_⟩
  · have := (key _ (Nat.le_refl _)).1
    unfold s_X9_partsOn s_X9_partsOn_c4
    dsimp only
    rw [Nat.sub_zero]
    exact this
  · have := sI_le (onC_1 σ p (σ 7 0)) (σ 6 0).toNatClampNeg
    omega
def s_X9_over (σ : St) (a1 : Int32) (a2 : Int32) : Int32 × St := (if (s_X9_isIn a1 (σ 2 0)) = (0 : Int32) then (((s_X9_refuse σ (-1 : Int32)).1), (s_X9_refuse σ (-1 : Int32)).2) else (s_X9_over_c32r σ (iterR (s_X9_over_l32 σ a1 a2) (1 + (σ 6 0).toNatClampNeg) 0 ((0 : Int32), (σ 7 0), (s_X9_partsOn σ a1)))))
theorem fr_s_X9_over_c48 (σ : St) (a2 : Int32) (v5_4 : Int32) (v3_4 : Int32) (s : Int32) {f : Nat} (h0 : f ≠ 0) : Sum.elim (fun (r : (Int32 × St)) => r.2 f) (fun _ => σ f) (s_X9_over_c48 σ a2 v5_4 v3_4 s) = σ f := by
  unfold s_X9_over_c48
  all_goals ((try dsimp only) <;> ((repeat' split) <;> (try simp only [put_fr, ne_eq, not_false_eq_true, h0, fr_s_X9_refuse, Sum.elim_inl, Sum.elim_inr])))
theorem fr_s_X9_over_l32 (σ : St) (a1 : Int32) (a2 : Int32) (k_4 : Nat) (s : (Int32 × Int32 × Int32)) {f : Nat} (h0 : f ≠ 0) : Sum.elim (fun (r : (Int32 × St)) => r.2 f) (fun _ => σ f) (s_X9_over_l32 σ a1 a2 k_4 s) = σ f := by
  obtain ⟨v5_4, v4_4, v3_4⟩ := s
  unfold s_X9_over_l32
  all_goals ((try dsimp only) <;> ((repeat' split) <;> (try simp only [put_fr, ne_eq, not_false_eq_true, h0, fr_s_X9_refuse, fr_s_X9_over_c48, Sum.elim_inl, Sum.elim_inr])))
theorem fri_s_X9_over_l32 (σ : St) (a1 : Int32) (a2 : Int32) (n k : Nat) (s : (Int32 × Int32 × Int32)) {f : Nat} (h0 : f ≠ 0) : Sum.elim (fun (r : (Int32 × St)) => r.2 f) (fun (_ : (Int32 × Int32 × Int32)) => σ f) (iterR (s_X9_over_l32 σ a1 a2) n k s) = σ f := iterR_fr (P := (fun (_ : (Int32 × Int32 × Int32)) => σ f)) (Q := fun (r : (Int32 × St)) => r.2 f) (fun k s => fr_s_X9_over_l32 σ a1 a2 k s h0) n k s
theorem fr_s_X9_over_c32r (σ : St) (x : Sum (Int32 × St) (Int32 × Int32 × Int32)) {f : Nat} : (s_X9_over_c32r σ x).2 f = Sum.elim (fun (r : Int32 × St) => (r.2) f) (fun (_ : (Int32 × Int32 × Int32)) => σ f) x := by
  cases x <;> rfl
theorem fr_s_X9_over (σ : St) (a1 : Int32) (a2 : Int32) {f : Nat} (h0 : f ≠ 0) : (s_X9_over σ a1 a2 ).2 f = σ f := by
  unfold s_X9_over
  all_goals ((try dsimp only) <;> ((repeat' split) <;> (try simp only [put_fr, ne_eq, not_false_eq_true, h0, fr_s_X9_refuse, fr_s_X9_over_c48, fr_s_X9_over_l32, fri_s_X9_over_l32, fr_s_X9_over_c32r])))
set_option maxHeartbeats 1000000 in
set_option maxRecDepth 100000 in
theorem k_X9_over (l : Launch) (D : va_G) (ca : Nat → ClassId) (h : Nat) (ad : Nat → Nat) (σ : St) (a1 : Int32) (a2 : Int32) (sz : Nat) (hI : IR σ) (hJ : JR σ) (R : Int32 × St) (hR : s_X9_over σ a1 a2 = R) : Met l yX9_over wsX9_over ({ frames := 3, cells := 0, slots := 0, locals := 64 }) (va_Pc [.ref h, .int a1, .int a2] (pw_pre D ca (WM ca h ad σ) sz)) (va_Qi (fun (r : Int32) (_ : Unit) => r = R.1) (fun (_ : Unit) (t : State) => pw_post D ca (WM ca h ad σ) sz (WM ca h ad (R.2)) t ∧ IR R.2) (va_A (WM ca h ad σ) sz)) 0 0 (va_A (WM ca h ad σ) sz) := by
  refine Met.ofW (cc := cX9_over) (maxL := 8) (ret := (some .int)) (by decide) rfl ?_
  intro p e s m args below meth c s₁ B hml hv
  obtain ⟨rfl, hsz, hP, hK, hD0⟩ := hv
  have hx := B.exec
  have hb := B.bytes
  have hr := B.returns
  have hts := atoms_spec (ws := wsX9_over) B.pre
  have hown : s.vm.findClass RX9 = some m.cls := findClass_of_methodNamed B.named
  have hlocks := B.notSynchronized
  have hu9 : ∀ w ∈ u_ws RX9 TX9 51, w ∈ wsX9_over := fun w h => List.mem_cons_of_mem _ (uw9 w h)
  subst hsz
  have hD := hD0.self (sz := s.heap.size)
  obtain ⟨A, hAe⟩ : ∃ A, A = va_A (WM ca h ad σ) s.heap.size := ⟨_, rfl⟩
  rw [← hAe] at hD ⊢
  have hA : ∀ q : Nat, s.heap.size ≤ q → A q := fun q h => by rw [hAe]; exact Or.inr h
  have hS : va_S A s.heap s.heap [] := va_S.rf
  have hl := lv_entry ([.ref h, .int a1, .int a2]) (n := 8) (Nat.le_of_ble_eq_true rfl)
  rw [lg_entry_eq]
  generalize (lg_sl ([.ref h, .int a1, .int a2]) ++ List.replicate (8 - (lg_sl ([.ref h, .int a1, .int a2])).length) Slot.unset).toArray = ls at hl ⊢
  have hl : lv_has ls 8 [(0, .ref h), (1, .int a1), (2, .int a2)] := hl
  obtain ⟨H, hH⟩ : ∃ H, H = s.heap := ⟨_, rfl⟩
  have hP : va_P D vwCl (WM ca h ad σ) H := by rw [hH]; exact hP
  have hS : va_S A s.heap H [] := by rw [hH]; exact hS
  obtain ⟨QQ, hQ⟩ : ∃ Q9, Q9 = MQ below (va_Qi (fun (r : Int32) (_ : Unit) => r = R.1) (fun (_ : Unit) (t : State) => pw_post D ca (WM ca h ad σ) s.heap.size (WM ca h ad (R.2)) t ∧ IR R.2) A) ([.ref h, .int a1, .int a2] : List Value).toArray s 0 0 A := ⟨_, rfl⟩
  rw [← hQ]
  show W _ _ _ _ _ _ _ _ _ _ s.heap _ _ _ _ _
  rw [← hH]
  have hR : (if (s_X9_isIn a1 (σ 2 0)) = (0 : Int32) then (((s_X9_refuse σ (-1 : Int32)).1), (s_X9_refuse σ (-1 : Int32)).2) else (s_X9_over_c32r σ (iterR (s_X9_over_l32 σ a1 a2) (1 + (σ 6 0).toNatClampNeg) 0 ((0 : Int32), (σ 7 0), (s_X9_partsOn σ a1))))) = R := hR
  refine lv_iload_n hx hb dX9_over_0 rfl (lv_at hl 1 rfl) ?_
  refine lv_aload_n hx hb dX9_over_1 rfl (lv_at hl 0 rfl) ?_
  refine va_get (D := D) (ci := 9) (v := .int (σ 2 0)) (C := RX9) (T := TX9) (N := 51) hx hb hts hu9 hown hK hP 0 wm_0 rfl 2 (by decide) (hts (.fieldLink RX9 127 "GrazeBookModel" "pieces" "I") (List.mem_cons_of_mem _ mw_785)) (fun _ h9 => h9) rfl dX9_over_2 ?_
  have hF := pw_free (pn_D (A := A)) hS hA
  refine va_calli (va_runS (As := [.int a1, .int (σ 2 0)]) (rest := []) ⟨hx, hb, hml, hown, hts⟩ (k_X9_isIn l D ca a1 (σ 2 0) H.size _ rfl) (va_cwS 2 hts gX9_over_X9_isIn rfl rfl rfl (by decide +kernel) ⟨Nat.le_of_ble_eq_true rfl, Nat.le_of_ble_eq_true rfl⟩) ⟨pw_blind, pw_give pn_P hK (pn_D (A := A))⟩ rfl rfl hl.1 rfl (lv_room (Nat.le_of_ble_eq_true rfl)) dX9_over_5 ⟨Nat.le_of_ble_eq_true rfl, Nat.le_of_ble_eq_true rfl⟩) hS (fun q _ h => hF q h) hF (fun r_1 u t H1 locs ht hvm hw hB hz1 hk1 hS => ?_)
  subst hw
  have hP := pn_back hP hk1
  clear hB hk1 hz1 hF
  generalize H1 = H at hP hS ⊢
  refine lv_if_ne (tgt := 17) hx hb dX9_over_8 (by decide) (fun c_2 => ?_) (fun c_2 => ?_)
  · have hR := (if_neg c_2).symm.trans hR
    refine lv_aload_n hx hb dX9_over_17 rfl (lv_at hl 0 rfl) ?_
    refine lv_iload_n hx hb dX9_over_18 rfl (lv_at hl 1 rfl) ?_
    have hF := pw_free hD hS hA
    refine va_calli (va_runV (As := [.int a1]) (rest := []) ⟨hx, hb, hml, hown, hts⟩ (k_X9_partsOn l D ca h ad σ a1 H.size hI _ rfl) (cwV 1 hts gX9_over_X9_partsOn rfl rfl rfl (by decide +kernel) ⟨Nat.le_of_ble_eq_true rfl, Nat.le_of_ble_eq_true rfl⟩) ⟨pw_blind, va_recv hK hP (ci := 9) (q0 := 0) rfl wm_0, pw_give hP hK hD⟩ rfl rfl hl.1 rfl (lv_room (Nat.le_of_ble_eq_true rfl)) dX9_over_19 ⟨Nat.le_of_ble_eq_true rfl, Nat.le_of_ble_eq_true rfl⟩) hS (fun q _ h => hF q h) hF (fun r_3 u t H1 locs ht hvm hw hB hz1 hk1 hS => ?_)
    subst hw
    obtain ⟨hP, hD⟩ := pw_back hF ht hB
    clear hB hk1 hz1 hF
    generalize H1 = H at hP hS ⊢
    refine lv_istore_n (lv' := [(3, .int (s_X9_partsOn σ a1)), (0, .ref h), (1, .int a1), (2, .int a2)]) hx hb dX9_over_22 rfl hl (by decide) rfl (fun ls hl => ?_)
    refine lv_aload_n hx hb dX9_over_23 rfl (lv_at hl 1 rfl) ?_
    refine va_get (D := D) (ci := 9) (v := .int (σ 7 0)) (C := RX9) (T := TX9) (N := 51) hx hb hts hu9 hown hK hP 0 wm_0 rfl 7 (by decide) (hts (.fieldLink RX9 188 "GrazeBookModel" "orders" "I") (List.mem_cons_of_mem _ mw_790)) (fun _ h9 => h9) rfl dX9_over_24 ?_
    refine lv_istore (lv' := [(4, .int (σ 7 0)), (3, .int (s_X9_partsOn σ a1)), (0, .ref h), (1, .int a1), (2, .int a2)]) hx hb dX9_over_27 hl (by decide) rfl (fun ls hl => ?_)
    refine lv_iconst (v := (0 : Int32)) hx hb dX9_over_29 (by decide) ?_
    refine lv_istore (lv' := [(5, .int (0 : Int32)), (4, .int (σ 7 0)), (3, .int (s_X9_partsOn σ a1)), (0, .ref h), (1, .int a1), (2, .int a2)]) hx hb dX9_over_30 hl (by decide) rfl (fun ls hl => ?_)
    have hL_4 : ∀ (n k_4 : Nat) (v5_4 : Int32) (v4_4 : Int32) (v3_4 : Int32) (ho_4 : OV σ a1 v3_4 v4_4 n) (H : Heap) (locs : List Loc) (ls : Array Slot), s_X9_over_c32r σ (iterR (s_X9_over_l32 σ a1 a2) n k_4 (v5_4, v4_4, v3_4)) = R → va_P D vwCl (WM ca h ad σ) H → va_D A (WM ca h ad σ) → va_S A s.heap H locs → lv_has ls 8 [(5, .int v5_4), (4, .int v4_4), (3, .int v3_4), (0, .ref h), (1, .int a1), (2, .int a2)] → W p l e ((headSpec wsX9_over ({ frames := 3, cells := 0, slots := 0, locals := 64 })).room) s m ([.ref h, .int a1, .int a2] : List Value).toArray below meth c H locs 0 0 QQ (F0 m 32 ls []) := by
      intro n
      induction n with
      | zero =>
        intro k_4 v5_4 v4_4 v3_4 ho_4 H locs ls hR hP hD hS hl
        exact absurd trivial (fun _ => ov_zero ho_4)
      | succ n ih =>
        intro k_4 v5_4 v4_4 v3_4 ho_4 H locs ls hR hP hD hS hl
        obtain ⟨S_4, hB_4⟩ : ∃ s9, s_X9_over_l32 σ a1 a2 k_4 (v5_4, v4_4, v3_4) = s9 := ⟨_, rfl⟩
        have hR : s_X9_over_c32r σ (iterR1 (s_X9_over_l32 σ a1 a2) n k_4 S_4) = R := by rw [← hB_4]; exact hR
        have hB_4 : (if v3_4 ≤ (σ 15 (a1.toNatClampNeg)) then (Sum.inl ((-9 : Int32), σ)) else (s_X9_over_c48 σ a2 v5_4 v3_4 (iter (s_X9_over_l48 σ a1 v4_4) ((σ 6 0).toNatClampNeg - 0) 0 (-1 : Int32)))) = S_4 := hB_4
        refine lv_iload_n hx hb dX9_over_32 rfl (lv_at hl 2 rfl) ?_
        refine lv_aload_n hx hb dX9_over_33 rfl (lv_at hl 3 rfl) ?_
        refine va_get (D := D) (ci := 9) (v := .ref (ad 15)) (C := RX9) (T := TX9) (N := 51) hx hb hts hu9 hown hK hP 0 wm_0 rfl 15 (by decide) (hts (.fieldLink RX9 19 "GrazeBookModel" "bears" "[I") (List.mem_cons_of_mem _ mw_798)) (fun _ h9 => h9) rfl dX9_over_34 ?_
        refine lv_iload_n hx hb dX9_over_37 rfl (lv_at hl 4 rfl) ?_
        refine va_iald_k (k := (a1.toNatClampNeg)) (v := (σ 15 (a1.toNatClampNeg))) hx hb hK hP 4 0 wm_a15 rfl rfl rfl (ix_isIn c_2 (ir_2 hI)) dX9_over_38 ?_
        refine lv_icmp_le (tgt := 154) hx hb dX9_over_39 (by decide) (fun c_5 => ?_) (fun c_5 => ?_)
        · have hB_4 := (if_pos c_5).symm.trans hB_4
          refine lv_bipush (v := (-9 : Int32)) hx hb dX9_over_154 (by decide) ?_
          subst hB_4
          have hI9 : IR σ := hI
          subst hR
          rw [hQ]
          exact W.iret (v := (-9 : Int32)) hx hb hr (fun t ht hW => ⟨⟨(-9 : Int32), (), rfl, rfl, ⟨by rw [ht]; exact hP, va_K.moved hW.alike hK, by rw [← hAe]; exact hD⟩, hI9⟩, hS.F ht⟩) hS.2.2 dX9_over_156
        · have hB_4 := (if_neg c_5).symm.trans hB_4
          refine lv_iconst (v := (-1 : Int32)) hx hb dX9_over_42 (by decide) ?_
          refine lv_istore (lv' := [(6, .int (-1 : Int32)), (5, .int v5_4), (4, .int v4_4), (3, .int v3_4), (0, .ref h), (1, .int a1), (2, .int a2)]) hx hb dX9_over_43 hl (by decide) rfl (fun ls hl => ?_)
          refine lv_iconst (v := (0 : Int32)) hx hb dX9_over_45 (by decide) ?_
          refine lv_istore (lv' := [(7, .int (0 : Int32)), (6, .int (-1 : Int32)), (5, .int v5_4), (4, .int v4_4), (3, .int v3_4), (0, .ref h), (1, .int a1), (2, .int a2)]) hx hb dX9_over_46 hl (by decide) rfl (fun ls hl => ?_)
          have hE_6 : ∀ (v6_6 : Int32) (hF_6 : v6_6 = (iter (s_X9_over_l48 σ a1 v4_4) ((σ 6 0).toNatClampNeg - 0) 0 (-1 : Int32))) (hv_6 : v6_6.toInt < 20) (H : Heap) (locs : List Loc) (ls : Array Slot), s_X9_over_c48 σ a2 v5_4 v3_4 v6_6 = S_4 → va_P D vwCl (WM ca h ad σ) H → va_D A (WM ca h ad σ) → va_S A s.heap H locs → lv_has ls 8 [(6, .int v6_6), (5, .int v5_4), (3, .int v3_4), (0, .ref h), (1, .int a1), (2, .int a2)] → W p l e ((headSpec wsX9_over ({ frames := 3, cells := 0, slots := 0, locals := 64 })).room) s m ([.ref h, .int a1, .int a2] : List Value).toArray below meth c H locs 0 0 QQ (F0 m 121 ls []) := by
            intro v6_6 hF_6 hv_6 H locs ls hB_4 hP hD hS hl
            have hB_4 : (if v5_4 = a2 then (Sum.inl (v6_6, σ)) else (Sum.inr ((v5_4 + (1 : Int32)), (σ 39 (v6_6.toNatClampNeg)), (v3_4 - (s_X9_partsOfHerd σ v6_6))))) = S_4 := hB_4
            refine lv_iload hx hb dX9_over_121 (lv_at hl 1 rfl) ?_
            refine lv_iload_n hx hb dX9_over_123 rfl (lv_at hl 5 rfl) ?_
            refine lv_icmp_ne (tgt := 130) hx hb dX9_over_124 (by decide) (fun c_7 => ?_) (fun c_7 => ?_)
            · have hB_4 := (if_neg c_7).symm.trans hB_4
              refine lv_aload_n hx hb dX9_over_130 rfl (lv_at hl 3 rfl) ?_
              refine va_get (D := D) (ci := 9) (v := .ref (ad 39)) (C := RX9) (T := TX9) (N := 51) hx hb hts hu9 hown hK hP 0 wm_0 rfl 39 (by decide) (hts (.fieldLink RX9 92 "GrazeBookModel" "hOrder" "[I") (List.mem_cons_of_mem _ mw_822)) (fun _ h9 => h9) rfl dX9_over_131 ?_
              refine lv_iload hx hb dX9_over_134 (lv_at hl 0 rfl) ?_
              refine va_iald_k (k := (v6_6.toNatClampNeg)) (v := (σ 39 (v6_6.toNatClampNeg))) hx hb hK hP 28 0 wm_a39 rfl rfl rfl (ov_step hI hJ ho_4 c_5 hF_6).1 dX9_over_136 ?_
              refine lv_istore (lv' := [(4, .int (σ 39 (v6_6.toNatClampNeg))), (6, .int v6_6), (5, .int v5_4), (3, .int v3_4), (0, .ref h), (1, .int a1), (2, .int a2)]) hx hb dX9_over_137 hl (by decide) rfl (fun ls hl => ?_)
              refine lv_iload_n hx hb dX9_over_139 rfl (lv_at hl 3 rfl) ?_
              refine lv_aload_n hx hb dX9_over_140 rfl (lv_at hl 4 rfl) ?_
              refine lv_iload hx hb dX9_over_141 (lv_at hl 1 rfl) ?_
              have hF := pw_free hD hS hA
              refine va_calli (va_runV (As := [.int v6_6]) (rest := [.int v3_4]) ⟨hx, hb, hml, hown, hts⟩ (k_X9_partsOfHerd l D ca h ad σ v6_6 H.size hI ((ov_step hI hJ ho_4 c_5 hF_6).1) _ rfl) (cwV 1 hts gX9_over_X9_partsOfHerd rfl rfl rfl (by decide +kernel) ⟨Nat.le_of_ble_eq_true rfl, Nat.le_of_ble_eq_true rfl⟩) ⟨pw_blind, va_recv hK hP (ci := 9) (q0 := 0) rfl wm_0, pw_give hP hK hD⟩ rfl rfl hl.1 rfl (lv_room (Nat.le_of_ble_eq_true rfl)) dX9_over_143 ⟨Nat.le_of_ble_eq_true rfl, Nat.le_of_ble_eq_true rfl⟩) hS (fun q _ h => hF q h) hF (fun r_8 u t H1 locs ht hvm hw hB hz1 hk1 hS => ?_)
              subst hw
              obtain ⟨hP, hD⟩ := pw_back hF ht hB
              clear hB hk1 hz1 hF
              generalize H1 = H at hP hS ⊢
              refine lv_isub hx hb dX9_over_146 ?_
              refine lv_istore_n (lv' := [(3, .int (v3_4 - (s_X9_partsOfHerd σ v6_6))), (4, .int (σ 39 (v6_6.toNatClampNeg))), (6, .int v6_6), (5, .int v5_4), (0, .ref h), (1, .int a1), (2, .int a2)]) hx hb dX9_over_147 rfl hl (by decide) rfl (fun ls hl => ?_)
              refine lv_iinc (v := (v5_4 + (1 : Int32))) (lv' := [(5, .int (v5_4 + (1 : Int32))), (3, .int (v3_4 - (s_X9_partsOfHerd σ v6_6))), (4, .int (σ 39 (v6_6.toNatClampNeg))), (6, .int v6_6), (0, .ref h), (1, .int a1), (2, .int a2)]) hx hb dX9_over_148 hl (k := 3) rfl (by rw [show Int32.ofInt (1) = (1 : Int32) from by decide]) (by decide) rfl (fun ls hl => ?_)
              refine lv_goto (tgt := 32) hx hb dX9_over_151 (by decide) ?_
              subst hB_4
              exact ih (k_4 + 1) (v5_4 + (1 : Int32)) (σ 39 (v6_6.toNatClampNeg)) (v3_4 - (s_X9_partsOfHerd σ v6_6)) ((ov_step hI hJ ho_4 c_5 hF_6).2) _ _ _ hR hP hD hS (lv_sub hl [0, 2, 1, 4, 5, 6] rfl)
            · have hB_4 := (if_pos c_7).symm.trans hB_4
              refine lv_iload hx hb dX9_over_127 (lv_at hl 0 rfl) ?_
              subst hB_4
              have hI9 : IR σ := hI
              subst hR
              rw [hQ]
              exact W.iret (v := v6_6) hx hb hr (fun t ht hW => ⟨⟨v6_6, (), rfl, rfl, ⟨by rw [ht]; exact hP, va_K.moved hW.alike hK, by rw [← hAe]; exact hD⟩, hI9⟩, hS.F ht⟩) hS.2.2 dX9_over_129
          have hL_6 : ∀ (n k_6 : Nat) (v6_6 : Int32) (hk_6 : lpk (σ 6 0) k_6 n) (hF_6 : iter (s_X9_over_l48 σ a1 v4_4) n k_6 v6_6 = (iter (s_X9_over_l48 σ a1 v4_4) ((σ 6 0).toNatClampNeg - 0) 0 (-1 : Int32))) (hv_6 : v6_6.toInt < 20) (H : Heap) (locs : List Loc) (ls : Array Slot), s_X9_over_c48 σ a2 v5_4 v3_4 (iter (s_X9_over_l48 σ a1 v4_4) n k_6 v6_6) = S_4 → va_P D vwCl (WM ca h ad σ) H → va_D A (WM ca h ad σ) → va_S A s.heap H locs → lv_has ls 8 [(7, .int (nI k_6)), (6, .int v6_6), (5, .int v5_4), (4, .int v4_4), (3, .int v3_4), (0, .ref h), (1, .int a1), (2, .int a2)] → W p l e ((headSpec wsX9_over ({ frames := 3, cells := 0, slots := 0, locals := 64 })).room) s m ([.ref h, .int a1, .int a2] : List Value).toArray below meth c H locs 0 0 QQ (F0 m 48 ls []) := by
            intro n
            induction n with
            | zero =>
              intro k_6 v6_6 hk_6 hF_6 hv_6 H locs ls hB_4 hP hD hS hl
              refine lv_iload hx hb dX9_over_48 (lv_at hl 0 rfl) ?_
              refine lv_aload_n hx hb dX9_over_50 rfl (lv_at hl 5 rfl) ?_
              refine va_get (D := D) (ci := 9) (v := .int (σ 6 0)) (C := RX9) (T := TX9) (N := 51) hx hb hts hu9 hown hK hP 0 wm_0 rfl 6 (by decide) (hts (.fieldLink RX9 164 "GrazeBookModel" "herds" "I") (List.mem_cons_of_mem _ mw_789)) (fun _ h9 => h9) rfl dX9_over_51 ?_
              refine lv_icmp_ge (tgt := 121) hx hb dX9_over_54 (by decide) (fun _ => ?_) (fun c_9 => absurd (ge_end hk_6) c_9)
              exact hE_6 v6_6 hF_6 hv_6 _ _ _ hB_4 hP hD hS (lv_sub hl [1, 2, 4, 5, 6, 7] rfl)
            | succ n ih =>
              intro k_6 v6_6 hk_6 hF_6 hv_6 H locs ls hB_4 hP hD hS hl
              obtain ⟨S_6, hB_6⟩ : ∃ s9, s_X9_over_l48 σ a1 v4_4 k_6 v6_6 = s9 := ⟨_, rfl⟩
              have hB_4 : s_X9_over_c48 σ a2 v5_4 v3_4 (iter (s_X9_over_l48 σ a1 v4_4) n (k_6 + 1) S_6) = S_4 := by rw [← hB_6]; exact hB_4
              have hC_6 := hB_6; have hB_6 : (if (s_X9_isOut σ (nI k_6)) = (0 : Int32) then v6_6 else (if (σ 38 k_6) = a1 then (if v4_4 ≤ (σ 39 k_6) then v6_6 else (if v6_6 < (0 : Int32) then (nI k_6) else (if (σ 39 k_6) ≤ (σ 39 (v6_6.toNatClampNeg)) then v6_6 else (nI k_6)))) else v6_6)) = S_6 := hB_6
              refine lv_iload hx hb dX9_over_48 (lv_at hl 0 rfl) ?_
              refine lv_aload_n hx hb dX9_over_50 rfl (lv_at hl 5 rfl) ?_
              refine va_get (D := D) (ci := 9) (v := .int (σ 6 0)) (C := RX9) (T := TX9) (N := 51) hx hb hts hu9 hown hK hP 0 wm_0 rfl 6 (by decide) (hts (.fieldLink RX9 164 "GrazeBookModel" "herds" "I") (List.mem_cons_of_mem _ mw_789)) (fun _ h9 => h9) rfl dX9_over_51 ?_
              refine lv_icmp_ge (tgt := 121) hx hb dX9_over_54 (by decide) (fun c_10 => absurd c_10 (ge_go hk_6)) (fun _ => ?_)
              refine lv_aload_n hx hb dX9_over_57 rfl (lv_at hl 5 rfl) ?_
              refine lv_iload hx hb dX9_over_58 (lv_at hl 0 rfl) ?_
              have hF := pw_free hD hS hA
              refine va_calli (va_runV (As := [.int (nI k_6)]) (rest := []) ⟨hx, hb, hml, hown, hts⟩ (k_X9_isOut l D ca h ad σ (nI k_6) H.size hI (ix_loop (N := 20) hk_6 (ir_6 hI) (by decide) (by decide)) _ rfl) (cwV 1 hts gX9_over_X9_isOut rfl rfl rfl (by decide +kernel) ⟨Nat.le_of_ble_eq_true rfl, Nat.le_of_ble_eq_true rfl⟩) ⟨pw_blind, va_recv hK hP (ci := 9) (q0 := 0) rfl wm_0, pw_give hP hK hD⟩ rfl rfl hl.1 rfl (lv_room (Nat.le_of_ble_eq_true rfl)) dX9_over_60 ⟨Nat.le_of_ble_eq_true rfl, Nat.le_of_ble_eq_true rfl⟩) hS (fun q _ h => hF q h) hF (fun r_11 u t H1 locs ht hvm hw hB hz1 hk1 hS => ?_)
              subst hw
              obtain ⟨hP, hD⟩ := pw_back hF ht hB
              clear hB hk1 hz1 hF
              generalize H1 = H at hP hS ⊢
              refine lv_if_eq (tgt := 115) hx hb dX9_over_63 (by decide) (fun c_12 => ?_) (fun c_12 => ?_)
              · have hB_6 := (if_pos c_12).symm.trans hB_6
                refine lv_iinc (v := (nI (k_6 + 1))) (lv' := [(7, .int (nI (k_6 + 1))), (6, .int v6_6), (5, .int v5_4), (4, .int v4_4), (3, .int v3_4), (0, .ref h), (1, .int a1), (2, .int a2)]) hx hb dX9_over_115 hl (k := 0) rfl (by rw [show Int32.ofInt 1 = 1 from by decide]; exact nI_1 _) (by decide) rfl (fun ls hl => ?_)
                refine lv_goto (tgt := 48) hx hb dX9_over_118 (by decide) ?_
                subst hB_6
                exact ih (k_6 + 1) v6_6 (ge_next hk_6) (by rw [← hC_6]; exact hF_6) hv_6 _ _ _ hB_4 hP hD hS (lv_sub hl [0, 1, 2, 3, 4, 5, 6, 7] rfl)
              · have hB_6 := (if_neg c_12).symm.trans hB_6
                refine lv_aload_n hx hb dX9_over_66 rfl (lv_at hl 5 rfl) ?_
                refine va_get (D := D) (ci := 9) (v := .ref (ad 38)) (C := RX9) (T := TX9) (N := 51) hx hb hts hu9 hown hK hP 0 wm_0 rfl 38 (by decide) (hts (.fieldLink RX9 89 "GrazeBookModel" "hPiece" "[I") (List.mem_cons_of_mem _ mw_821)) (fun _ h9 => h9) rfl dX9_over_67 ?_
                refine lv_iload hx hb dX9_over_70 (lv_at hl 0 rfl) ?_
                refine va_iald_k (k := k_6) (v := (σ 38 k_6)) hx hb hK hP 27 0 wm_a38 rfl (ix_cl hk_6) rfl (ix_loop (N := 20) hk_6 (ir_6 hI) (by decide) (by decide)) dX9_over_72 ?_
                refine lv_iload_n hx hb dX9_over_73 rfl (lv_at hl 6 rfl) ?_
                refine lv_icmp_ne (tgt := 115) hx hb dX9_over_74 (by decide) (fun c_13 => ?_) (fun c_13 => ?_)
                · have hB_6 := (if_neg c_13).symm.trans hB_6
                  refine lv_iinc (v := (nI (k_6 + 1))) (lv' := [(7, .int (nI (k_6 + 1))), (6, .int v6_6), (5, .int v5_4), (4, .int v4_4), (3, .int v3_4), (0, .ref h), (1, .int a1), (2, .int a2)]) hx hb dX9_over_115 hl (k := 0) rfl (by rw [show Int32.ofInt 1 = 1 from by decide]; exact nI_1 _) (by decide) rfl (fun ls hl => ?_)
                  refine lv_goto (tgt := 48) hx hb dX9_over_118 (by decide) ?_
                  subst hB_6
                  exact ih (k_6 + 1) v6_6 (ge_next hk_6) (by rw [← hC_6]; exact hF_6) hv_6 _ _ _ hB_4 hP hD hS (lv_sub hl [0, 1, 2, 3, 4, 5, 6, 7] rfl)
                · have hB_6 := (if_pos c_13).symm.trans hB_6
                  refine lv_aload_n hx hb dX9_over_77 rfl (lv_at hl 5 rfl) ?_
                  refine va_get (D := D) (ci := 9) (v := .ref (ad 39)) (C := RX9) (T := TX9) (N := 51) hx hb hts hu9 hown hK hP 0 wm_0 rfl 39 (by decide) (hts (.fieldLink RX9 92 "GrazeBookModel" "hOrder" "[I") (List.mem_cons_of_mem _ mw_822)) (fun _ h9 => h9) rfl dX9_over_78 ?_
                  refine lv_iload hx hb dX9_over_81 (lv_at hl 0 rfl) ?_
                  refine va_iald_k (k := k_6) (v := (σ 39 k_6)) hx hb hK hP 28 0 wm_a39 rfl (ix_cl hk_6) rfl (ix_loop (N := 20) hk_6 (ir_6 hI) (by decide) (by decide)) dX9_over_83 ?_
                  refine lv_iload hx hb dX9_over_84 (lv_at hl 3 rfl) ?_
                  refine lv_icmp_ge (tgt := 115) hx hb dX9_over_86 (by decide) (fun c_14 => ?_) (fun c_14 => ?_)
                  · have hB_6 := (if_pos c_14).symm.trans hB_6
                    refine lv_iinc (v := (nI (k_6 + 1))) (lv' := [(7, .int (nI (k_6 + 1))), (6, .int v6_6), (5, .int v5_4), (4, .int v4_4), (3, .int v3_4), (0, .ref h), (1, .int a1), (2, .int a2)]) hx hb dX9_over_115 hl (k := 0) rfl (by rw [show Int32.ofInt 1 = 1 from by decide]; exact nI_1 _) (by decide) rfl (fun ls hl => ?_)
                    refine lv_goto (tgt := 48) hx hb dX9_over_118 (by decide) ?_
                    subst hB_6
                    exact ih (k_6 + 1) v6_6 (ge_next hk_6) (by rw [← hC_6]; exact hF_6) hv_6 _ _ _ hB_4 hP hD hS (lv_sub hl [0, 1, 2, 3, 4, 5, 6, 7] rfl)
                  · have hB_6 := (if_neg c_14).symm.trans hB_6
                    refine lv_iload hx hb dX9_over_89 (lv_at hl 1 rfl) ?_
                    refine lv_if_lt (tgt := 111) hx hb dX9_over_91 (by decide) (fun c_15 => ?_) (fun c_15 => ?_)
                    · have hB_6 := (if_pos c_15).symm.trans hB_6
                      refine lv_iload hx hb dX9_over_111 (lv_at hl 0 rfl) ?_
                      refine lv_istore (lv' := [(6, .int (nI k_6)), (7, .int (nI k_6)), (5, .int v5_4), (4, .int v4_4), (3, .int v3_4), (0, .ref h), (1, .int a1), (2, .int a2)]) hx hb dX9_over_113 hl (by decide) rfl (fun ls hl => ?_)
                      refine lv_iinc (v := (nI (k_6 + 1))) (lv' := [(7, .int (nI (k_6 + 1))), (6, .int (nI k_6)), (5, .int v5_4), (4, .int v4_4), (3, .int v3_4), (0, .ref h), (1, .int a1), (2, .int a2)]) hx hb dX9_over_115 hl (k := 1) rfl (by rw [show Int32.ofInt 1 = 1 from by decide]; exact nI_1 _) (by decide) rfl (fun ls hl => ?_)
                      refine lv_goto (tgt := 48) hx hb dX9_over_118 (by decide) ?_
                      subst hB_6
                      exact ih (k_6 + 1) (nI k_6) (ge_next hk_6) (by rw [← hC_6]; exact hF_6) (v6_k (ix_loop (N := 20) hk_6 (ir_6 hI) (by decide) (by decide))) _ _ _ hB_4 hP hD hS (lv_sub hl [0, 1, 2, 3, 4, 5, 6, 7] rfl)
                    · have hB_6 := (if_neg c_15).symm.trans hB_6
                      refine lv_aload_n hx hb dX9_over_94 rfl (lv_at hl 5 rfl) ?_
                      refine va_get (D := D) (ci := 9) (v := .ref (ad 39)) (C := RX9) (T := TX9) (N := 51) hx hb hts hu9 hown hK hP 0 wm_0 rfl 39 (by decide) (hts (.fieldLink RX9 92 "GrazeBookModel" "hOrder" "[I") (List.mem_cons_of_mem _ mw_822)) (fun _ h9 => h9) rfl dX9_over_95 ?_
                      refine lv_iload hx hb dX9_over_98 (lv_at hl 0 rfl) ?_
                      refine va_iald_k (k := k_6) (v := (σ 39 k_6)) hx hb hK hP 28 0 wm_a39 rfl (ix_cl hk_6) rfl (ix_loop (N := 20) hk_6 (ir_6 hI) (by decide) (by decide)) dX9_over_100 ?_
                      refine lv_aload_n hx hb dX9_over_101 rfl (lv_at hl 5 rfl) ?_
                      refine va_get (D := D) (ci := 9) (v := .ref (ad 39)) (C := RX9) (T := TX9) (N := 51) hx hb hts hu9 hown hK hP 0 wm_0 rfl 39 (by decide) (hts (.fieldLink RX9 92 "GrazeBookModel" "hOrder" "[I") (List.mem_cons_of_mem _ mw_822)) (fun _ h9 => h9) rfl dX9_over_102 ?_
                      refine lv_iload hx hb dX9_over_105 (lv_at hl 1 rfl) ?_
                      refine va_iald_k (k := (v6_6.toNatClampNeg)) (v := (σ 39 (v6_6.toNatClampNeg))) hx hb hK hP 28 0 wm_a39 rfl rfl rfl (v6_in (not_lt0 c_15) hv_6) dX9_over_107 ?_
                      refine lv_icmp_le (tgt := 115) hx hb dX9_over_108 (by decide) (fun c_16 => ?_) (fun c_16 => ?_)
                      · have hB_6 := (if_pos c_16).symm.trans hB_6
                        refine lv_iinc (v := (nI (k_6 + 1))) (lv' := [(7, .int (nI (k_6 + 1))), (6, .int v6_6), (5, .int v5_4), (4, .int v4_4), (3, .int v3_4), (0, .ref h), (1, .int a1), (2, .int a2)]) hx hb dX9_over_115 hl (k := 0) rfl (by rw [show Int32.ofInt 1 = 1 from by decide]; exact nI_1 _) (by decide) rfl (fun ls hl => ?_)
                        refine lv_goto (tgt := 48) hx hb dX9_over_118 (by decide) ?_
                        subst hB_6
                        exact ih (k_6 + 1) v6_6 (ge_next hk_6) (by rw [← hC_6]; exact hF_6) hv_6 _ _ _ hB_4 hP hD hS (lv_sub hl [0, 1, 2, 3, 4, 5, 6, 7] rfl)
                      · have hB_6 := (if_neg c_16).symm.trans hB_6
                        refine lv_iload hx hb dX9_over_111 (lv_at hl 0 rfl) ?_
                        refine lv_istore (lv' := [(6, .int (nI k_6)), (7, .int (nI k_6)), (5, .int v5_4), (4, .int v4_4), (3, .int v3_4), (0, .ref h), (1, .int a1), (2, .int a2)]) hx hb dX9_over_113 hl (by decide) rfl (fun ls hl => ?_)
                        refine lv_iinc (v := (nI (k_6 + 1))) (lv' := [(7, .int (nI (k_6 + 1))), (6, .int (nI k_6)), (5, .int v5_4), (4, .int v4_4), (3, .int v3_4), (0, .ref h), (1, .int a1), (2, .int a2)]) hx hb dX9_over_115 hl (k := 1) rfl (by rw [show Int32.ofInt 1 = 1 from by decide]; exact nI_1 _) (by decide) rfl (fun ls hl => ?_)
                        refine lv_goto (tgt := 48) hx hb dX9_over_118 (by decide) ?_
                        subst hB_6
                        exact ih (k_6 + 1) (nI k_6) (ge_next hk_6) (by rw [← hC_6]; exact hF_6) (v6_k (ix_loop (N := 20) hk_6 (ir_6 hI) (by decide) (by decide))) _ _ _ hB_4 hP hD hS (lv_sub hl [0, 1, 2, 3, 4, 5, 6, 7] rfl)
          exact hL_6 _ 0 (-1 : Int32) ⟨rfl, by decide⟩ rfl (by decide) _ _ _ hB_4 hP hD hS (lv_sub hl [0, 1, 2, 3, 4, 5, 6, 7] rfl)
    exact hL_4 (1 + (σ 6 0).toNatClampNeg) 0 (0 : Int32) (σ 7 0) (s_X9_partsOn σ a1) (ov_start hI hJ a1) _ _ _ hR hP hD hS (lv_sub hl [0, 1, 2, 3, 4, 5] rfl)
  · have hR := (if_pos c_2).symm.trans hR
    refine lv_aload_n hx hb dX9_over_11 rfl (lv_at hl 0 rfl) ?_
    refine lv_iconst (v := (-1 : Int32)) hx hb dX9_over_12 (by decide) ?_
    have hF := pw_free hD hS hA
    refine va_calli (va_runV (As := [.int (-1 : Int32)]) (rest := []) ⟨hx, hb, hml, hown, hts⟩ (k_X9_refuse l D ca h ad σ (-1 : Int32) H.size hI (by unfold vp_in; decide) _ rfl) (cwV 1 hts gX9_over_X9_refuse rfl rfl rfl (by decide +kernel) ⟨Nat.le_of_ble_eq_true rfl, Nat.le_of_ble_eq_true rfl⟩) ⟨pw_blind, va_recv hK hP (ci := 9) (q0 := 0) rfl wm_0, pw_give hP hK hD⟩ rfl rfl hl.1 rfl (lv_room (Nat.le_of_ble_eq_true rfl)) dX9_over_13 ⟨Nat.le_of_ble_eq_true rfl, Nat.le_of_ble_eq_true rfl⟩) hS (fun q _ h => hF q h) hF (fun r_17 u t H1 locs ht hvm hw hB hz1 hk1 hS => ?_)
    subst hw
    obtain ⟨hB, hI_18⟩ := hB
    obtain ⟨hP, hD⟩ := pw_back hF ht hB
    clear hB hk1 hz1 hF
    generalize H1 = H at hP hS ⊢
    have hI9 : IR ((s_X9_refuse σ (-1 : Int32)).2) := hI_18
    subst hR
    rw [hQ]
    exact W.iret (v := ((s_X9_refuse σ (-1 : Int32)).1)) hx hb hr (fun t ht hW => ⟨⟨((s_X9_refuse σ (-1 : Int32)).1), (), rfl, rfl, ⟨by rw [ht]; exact hP, va_K.moved hW.alike hK, by rw [← hAe]; exact hD⟩, hI9⟩, hS.F ht⟩) hS.2.2 dX9_over_16

