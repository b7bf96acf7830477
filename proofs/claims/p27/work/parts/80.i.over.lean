/-! over: the herd that went out last -/
theorem po_eq {σx σm : St} (E : RE σx σm) (hJ : IR σm) (J4 : ∀ h : Nat, h < (σm 6 0).toNatClampNeg → ¬ σm 41 h = 0 → σm 38 h < 0) {p : Nat} (p31 : p < 2 ^ 31) : s_X8_partsOn σx (nI p) = s_X9_partsOn σm (nI p) := by
  obtain ⟨e1, e2, e3, e4, e5, e6, e7, e8, e9, e10, e11, e12, e13, e14, e15, e16, e17, e18⟩ := id E
  unfold s_X8_partsOn s_X9_partsOn s_X8_partsOn_c4 s_X9_partsOn_c4
  try dsimp only
  rw [e5, Nat.sub_zero]
  refine it_sim (L := s_X8_partsOn_l4 σx (nI p)) (M := s_X9_partsOn_l4 σm (nI p)) (P := fun _ (x y : Int32) => x = y) rfl _ (fun j x y hj ih => ?_)
  subst ih
  have j31 : j < 2 ^ 31 := Nat.lt_trans hj (tn_lt _)
  unfold s_X8_partsOn_l4 s_X9_partsOn_l4
  try dsimp only
  rw [e18]
  by_cases h1 : σm 38 j = nI p
  · rw [if_pos h1, if_neg (out_1 J4 hj p31 h1), if_pos h1, pp_eq E (ir_36 hJ j) j31]
  · rw [if_neg h1, if_neg h1, Int32.add_zero]
    split <;> rfl
def onX (σ : St) (p b : Int32) (h : Nat) : Prop := σ 203 h = p ∧ ¬ b ≤ σ 204 h
theorem lo_last (σ : St) (p b : Int32) : ∀ n : Nat, n ≤ 20 → (iter (s_X8_latestOn_l5 σ p b) n 0 (-1 : Int32) = (-1 : Int32) ∧ ∀ h, h < n → ¬ onX σ p b h) ∨ (∃ j : Nat, j < n ∧ iter (s_X8_latestOn_l5 σ p b) n 0 (-1 : Int32) = nI j ∧ onX σ p b j ∧ ∀ h, h < n → onX σ p b h → σ 204 h ≤ σ 204 j)
  | 0, _ => Or.inl ⟨rfl, fun h hh => absurd hh (Nat.not_lt_zero h)⟩
  | n + 1, hn => by
    have ih := lo_last σ p b n (by omega)
    rw [iter_snoc, Nat.zero_add]
    generalize iter (s_X8_latestOn_l5 σ p b) n 0 (-1 : Int32) = r at ih
    by_cases hon : onX σ p b n
    · obtain ⟨h2, h3⟩ := hon
      rcases ih with ⟨e, hno⟩ | ⟨j, hj, e, hoj, hmax⟩
      · right
        refine ⟨n, by omega, ?_, ⟨h2, h3⟩, fun h hh ho => ?_⟩
        · subst e
          unfold s_X8_latestOn_l5
          dsimp only
          rw [if_pos h2, if_neg h3, if_pos rfl]
        · by_cases e2 : h = n
          · rw [e2]; exact Int32.le_refl _
          · exact absurd ho (hno h (by omega))
      · subst e
        have hc : (nI j).toNatClampNeg = j := nI_clamp (by omega)
        have hp : ¬ nI j = -1 := by
          rw [← Int32.toInt_inj, nI_toInt (by omega), show (-1 : Int32).toInt = -1 by decide]
          omega
        right
        by_cases hle : σ 204 n ≤ σ 204 j
        · refine ⟨j, by omega, ?_, hoj, fun h hh ho => ?_⟩
          · unfold s_X8_latestOn_l5
            dsimp only
            rw [if_pos h2, if_neg h3, if_neg hp, hc, if_pos hle]
          · by_cases e2 : h = n
            · rw [e2]; exact hle
            · exact hmax h (by omega) ho
        · refine ⟨n, by omega, ?_, ⟨h2, h3⟩, fun h hh ho => ?_⟩
          · unfold s_X8_latestOn_l5
            dsimp only
            rw [if_pos h2, if_neg h3, if_neg hp, hc, if_neg hle]
          · by_cases e2 : h = n
            · rw [e2]; exact Int32.le_refl _
            · have a := hmax h (by omega) ho
              rw [Int32.le_iff_toInt_le] at a hle ⊢
              omega
    · have e : s_X8_latestOn_l5 σ p b n r = r := by
        unfold s_X8_latestOn_l5
        dsimp only
        unfold onX at hon
        by_cases g2 : σ 203 n = p
        · rw [if_pos g2]
          by_cases g3 : b ≤ σ 204 n
          · rw [if_pos g3]
          · exact absurd ⟨g2, g3⟩ hon
        · rw [if_neg g2]
      rw [e]
      rcases ih with ⟨e2, hno⟩ | ⟨j, hj, e2, hoj, hmax⟩
      · exact Or.inl ⟨e2, fun h hh => by
          by_cases e3 : h = n
          · rw [e3]; exact hon
          · exact hno h (by omega)⟩
      · exact Or.inr ⟨j, by omega, e2, hoj, fun h hh ho => by
          by_cases e3 : h = n
          · rw [e3] at ho; exact absurd ho hon
          · exact hmax h (by omega) ho⟩
/-- the herd that went out last is taken away: what is left -/
theorem ov_drop {σ : St} (hI : IR σ) (hJ : JR σ) {p left b : Int32} {n j : Nat} (h : OV σ p left b (n + 1)) (hj : j < (σ 6 0).toNatClampNeg) (hoj : onP σ p b j) (hmax : ∀ h, h < (σ 6 0).toNatClampNeg → onP σ p b h → σ 39 h ≤ σ 39 j) : OV σ p (left - s_X9_partsOfHerd σ (nI j)) (σ 39 j) n ∧ (left - s_X9_partsOfHerd σ (nI j)).toInt ≤ left.toInt := by
  have hN : (σ 6 0).toNatClampNeg ≤ 20 := cnt_le (ir_6 hI)
  have key : ∀ h : Nat, h < (σ 6 0).toNatClampNeg → (onP σ p (σ 39 j) h ↔ onP σ p b h ∧ h ≠ j) := by
    intro h hh
    constructor
    · intro ⟨a1, a2, a3⟩
      refine ⟨⟨a1, a2, fun hx => ?_⟩, fun hx => ?_⟩
      · have hj3 := hoj.2.2
        rw [Int32.le_iff_toInt_le] at hx a3 hj3
        omega
      · subst hx
        exact a3 (Int32.le_refl _)
    · intro ⟨ho, hne⟩
      refine ⟨ho.1, ho.2.1, fun hx => ?_⟩
      have a := hmax h hh ho
      have d := hJ.2.2.1 h j hh hj hne (isOut_oP (by omega) ho.1) (isOut_oP (by omega) hoj.1)
      rw [← Int32.toInt_inj] at d
      rw [Int32.le_iff_toInt_le] at a hx
      omega
  have eV : ∀ h : Nat, h < (σ 6 0).toNatClampNeg → onV σ p (σ 39 j) h = if h = j then 0 else onV σ p b h := by
    intro h hh
    by_cases e1 : h = j
    · rw [if_pos e1, onV_no (fun ho => ((key h hh).mp ho).2 e1)]
    · rw [if_neg e1]
      by_cases e2 : onP σ p b h
      · rw [onV_yes e2, onV_yes ((key h hh).mpr ⟨e2, e1⟩)]
      · rw [onV_no e2, onV_no (fun ho => e2 ((key h hh).mp ho).1)]
  have eC : ∀ h : Nat, h < (σ 6 0).toNatClampNeg → onC σ p (σ 39 j) h = if h = j then 0 else onC σ p b h := by
    intro h hh
    by_cases e1 : h = j
    · rw [if_pos e1, onC_no (fun ho => ((key h hh).mp ho).2 e1)]
    · rw [if_neg e1]
      by_cases e2 : onP σ p b h
      · rw [onC_yes e2, onC_yes ((key h hh).mpr ⟨e2, e1⟩)]
      · rw [onC_no e2, onC_no (fun ho => e2 ((key h hh).mp ho).1)]
  have sV := sI_drop eV
  have sC := sI_drop eC
  rw [if_pos hj, onV_yes hoj] at sV
  rw [if_pos hj, onC_yes hoj] at sC
  have hp := ph_ok hI (nI j)
  have h1 := h.1
  have h2 := h.2
  have hl := left.toInt_lt
  have nn : 0 ≤ sI (onV σ p (σ 39 j)) (σ 6 0).toNatClampNeg := sI_nonneg (fun h => by
    by_cases e2 : onP σ p (σ 39 j) h
    · rw [onV_yes e2]; exact (ph_ok hI _).1
    · rw [onV_no e2]; exact Int.le_refl _) _
  have es : (left - s_X9_partsOfHerd σ (nI j)).toInt = left.toInt - (s_X9_partsOfHerd σ (nI j)).toInt := sub_ti (by omega) (by omega)
  refine ⟨⟨?_, by omega⟩, by omega⟩
  rw [es]
  omega
def OS (σx σm : St) (p b b2 : Int32) : Prop := ∀ h : Nat, h < (σm 6 0).toNatClampNeg → (onP σm p b h ↔ onX σx p b2 h)
theorem c36_9 (σ : St) (a1 a2 : Int32) (s : Int32 × Int32) (h : a2 < 0 ∨ s.1 = -1 ∨ s.2 ≤ σ 401 a1.toNatClampNeg) : (s_X8_over_c36 σ a1 a2 s).1 = -9 := by
  obtain ⟨v4, v3⟩ := s
  unfold s_X8_over_c36
  try dsimp only
  by_cases h1 : a2 < 0
  · rw [if_pos h1]
  · rw [if_neg h1]
    by_cases h2 : v4 = -1
    · rw [if_pos h2]
    · rw [if_neg h2]
      rcases h with h | h | h
      · exact absurd h h1
      · exact absurd h h2
      · rw [if_pos h]
theorem c36_r (σ : St) (a1 a2 v4 v3 : Int32) (h1 : ¬ a2 < 0) (h2 : ¬ v4 = -1) (h3 : ¬ v3 ≤ σ 401 a1.toNatClampNeg) : (s_X8_over_c36 σ a1 a2 (v4, v3)).1 = v4 := by
  unfold s_X8_over_c36
  try dsimp only
  rw [if_neg h1, if_neg h2, if_neg h3]
/-- what the relation says of the orders on a piece: the same herd is the last, and the same herds are left behind it -/
theorem os_last {k p : Nat} {σx σm : St} (E : RE σx σm) (HO : RO k σx σm) (hJ : IR σm) (hJR : JR σm) (p31 : p < 2 ^ 31) {b b2 : Int32} (S : OS σx σm (nI p) b b2) : (s_X8_latestOn σx (nI p) b2 = -1 ∧ iter (s_X9_over_l48 σm (nI p) b) ((σm 6 0).toNatClampNeg - 0) 0 (-1 : Int32) = -1 ∧ ∀ h, h < (σm 6 0).toNatClampNeg → ¬ onP σm (nI p) b h) ∨ ∃ j : Nat, j < (σm 6 0).toNatClampNeg ∧ s_X8_latestOn σx (nI p) b2 = nI j ∧ iter (s_X9_over_l48 σm (nI p) b) ((σm 6 0).toNatClampNeg - 0) 0 (-1 : Int32) = nI j ∧ onP σm (nI p) b j ∧ (∀ h, h < (σm 6 0).toNatClampNeg → onP σm (nI p) b h → σm 39 h ≤ σm 39 j) ∧ OS σx σm (nI p) (σm 39 j) (σx 204 j) := by
  have hN : (σm 6 0).toNatClampNeg ≤ 20 := cnt_le (ir_6 hJ)
  have e5 : σx 815 0 = σm 6 0 := congrFun E.2.2.2.2.1 0
  have e18 : σx 203 = σm 38 := E.2.2.2.2.2.2.2.2.2.2.2.2.2.2.2.2.2
  have ex : s_X8_latestOn σx (nI p) b2 = iter (s_X8_latestOn_l5 σx (nI p) b2) (σm 6 0).toNatClampNeg 0 (-1 : Int32) := by
    unfold s_X8_latestOn s_X8_latestOn_c5
    try dsimp only
    rw [e5, Nat.sub_zero]
  rw [ex, Nat.sub_zero]
  have n0 : ∀ h : Nat, σm 38 h = nI p → ¬ σm 38 h < 0 := fun h e => by rw [e]; exact nI_n0 p31
  rcases lo_last σx (nI p) b2 _ hN with ⟨x1, x2⟩ | ⟨i, x1, x2, x3, x4⟩
  · left
    have no : ∀ h, h < (σm 6 0).toNatClampNeg → ¬ onP σm (nI p) b h := fun h hh q => x2 h hh ((S h hh).mp q)
    rcases ov_last σm (nI p) b _ hN with ⟨y1, y2⟩ | ⟨j, y1, y2, y3, y4⟩
    · exact ⟨x1, y1, no⟩
    · exact absurd y3 (no j y1)
  · right
    rcases ov_last σm (nI p) b _ hN with ⟨y1, y2⟩ | ⟨j, y1, y2, y3, y4⟩
    · exact absurd ((S i x1).mpr x3) (y2 i x1)
    · have yi := (S i x1).mpr x3
      have xj := (S j y1).mp y3
      have eij : i = j := by
        refine Decidable.byContradiction (fun ne => ?_)
        have a := y4 i x1 yi
        have c := x4 j y1 xj
        have d := hJR.2.2.1 i j x1 y1 ne (isOut_oP (by omega) yi.1) (isOut_oP (by omega) y3.1)
        have o := HO.2.2 i j x1 y1 (n0 i yi.2.1) (n0 j y3.2.1)
        rw [← Int32.toInt_inj] at d
        rw [Int32.le_iff_toInt_le] at a c
        have := o.mpr (by omega)
        omega
      subst eij
      refine ⟨i, x1, x2, y2, y3, y4, fun h hh => ?_⟩
      have o := fun q => HO.2.2 h i hh x1 q (n0 i y3.2.1)
      constructor
      · rintro ⟨q1, q2, q3⟩
        refine ⟨by rw [e18]; exact q2, ?_⟩
        have o := o (n0 h q2)
        rw [Int32.le_iff_toInt_le] at q3 ⊢
        have := o.mpr (by omega)
        omega
      · rintro ⟨q2, q3⟩
        rw [e18] at q2
        refine ⟨out_1 hJR.2.2.2 hh p31 q2, q2, ?_⟩
        have o := o (n0 h q2)
        rw [Int32.le_iff_toInt_le] at q3 ⊢
        have := o.mp (by omega)
        omega
theorem m1_ne {j : Nat} (h : j < 2 ^ 31) : ¬ nI j = -1 := by
  rw [← Int32.toInt_inj, nI_toInt h, show (-1 : Int32).toInt = -1 by decide]
  omega
/-- class: from few parts on the answer is none -/
theorem ov_low {k p : Nat} {σx σm : St} (E : RE σx σm) (HO : RO k σx σm) (g4 : σx 401 = σm 15) (hJ : IR σm) (hJR : JR σm) (p31 : p < 2 ^ 31) (a2 : Int32) : ∀ (f i m : Nat) (b b2 v : Int32), OV σm (nI p) v b m → OS σx σm (nI p) b b2 → v ≤ σm 15 p → (s_X8_over_c36 σx (nI p) a2 (iterC (s_X8_over_l36 σx (nI p)) f i (s_X8_latestOn σx (nI p) b2, v))).1 = -9 := by
  intro f
  induction f with
  | zero =>
    intro i m b b2 v hV S hv
    refine c36_9 _ _ _ _ (Or.inr (Or.inr ?_))
    rw [nI_clamp p31, g4]
    exact hv
  | succ f ih =>
    intro i m b b2 v hV S hv
    show (s_X8_over_c36 σx (nI p) a2 (iterC1 (s_X8_over_l36 σx (nI p)) f i (s_X8_latestOn σx (nI p) b2, v) (s_X8_over_l36 σx (nI p) i (s_X8_latestOn σx (nI p) b2, v)))).1 = -9
    have stop : (s_X8_over_c36 σx (nI p) a2 (s_X8_latestOn σx (nI p) b2, v)).1 = -9 := by
      refine c36_9 _ _ _ _ (Or.inr (Or.inr ?_))
      rw [nI_clamp p31, g4]
      exact hv
    unfold s_X8_over_l36
    try dsimp only
    by_cases h1 : (20 : Int32) ≤ nI i
    · rw [if_pos h1]
      exact stop
    · rw [if_neg h1]
      rcases os_last E HO hJ hJR p31 S with ⟨x1, -, -⟩ | ⟨j, y1, y2, y3, y4, y5, y6⟩
      · rw [if_pos x1]
        exact stop
      · have j31 : j < 2 ^ 31 := Nat.lt_trans y1 (tn_lt _)
        rw [y2, if_neg (m1_ne j31), nI_clamp j31, pp_eq E (ir_36 hJ j) j31]
        cases m with
        | zero => exact absurd hV (fun q => ov_zero q)
        | succ m =>
          obtain ⟨q1, q2⟩ := ov_drop hJ hJR hV y1 y4 y5
          refine ih (i + 1) m _ _ _ q1 y6 ?_
          rw [Int32.le_iff_toInt_le] at hv ⊢
          omega
theorem ov_main {k p : Nat} {σx σm : St} (E : RE σx σm) (HO : RO k σx σm) (g4 : σx 401 = σm 15) (hJ : IR σm) (hJR : JR σm) (p31 : p < 2 ^ 31) (a2 : Int32) : ∀ (m i : Nat) (b b2 v : Int32), i + m = 1 + (σm 6 0).toNatClampNeg → OV σm (nI p) v b m → OS σx σm (nI p) b b2 → ((0 ≤ a2.toInt → i ≤ a2.toNatClampNeg → (s_X8_over_c36 σx (nI p) a2 (iterC (s_X8_over_l36 σx (nI p)) (a2.toNatClampNeg - i) i (s_X8_latestOn σx (nI p) b2, v))).1 = (s_X9_over_c32r σm (iterR (s_X9_over_l32 σm (nI p) a2) m i (nI i, b, v))).1) ∧ (a2.toInt < 0 → (s_X9_over_c32r σm (iterR (s_X9_over_l32 σm (nI p) a2) m i (nI i, b, v))).1 = -9)) := by
  have hN : (σm 6 0).toNatClampNeg ≤ 20 := cnt_le (ir_6 hJ)
  intro m
  induction m with
  | zero =>
    intro i b b2 v hi hV S
    exact absurd hV (fun q => ov_zero q)
  | succ m ih =>
    intro i b b2 v hi hV S
    have i31 : i < 2 ^ 31 := by omega
    have eR : iterR (s_X9_over_l32 σm (nI p) a2) (m + 1) i (nI i, b, v) = iterR1 (s_X9_over_l32 σm (nI p) a2) m i (s_X9_over_l32 σm (nI p) a2 i (nI i, b, v)) := rfl
    rw [eR]
    have eL : s_X9_over_l32 σm (nI p) a2 i (nI i, b, v) = if v ≤ σm 15 p then Sum.inl (-9, σm) else s_X9_over_c48 σm a2 (nI i) v (iter (s_X9_over_l48 σm (nI p) b) ((σm 6 0).toNatClampNeg - 0) 0 (-1 : Int32)) := by
      unfold s_X9_over_l32
      try dsimp only
      rw [nI_clamp p31]
    rw [eL]
    by_cases h1 : v ≤ σm 15 p
    · rw [if_pos h1]
      exact ⟨fun _ _ => ov_low E HO g4 hJ hJR p31 a2 _ _ (m + 1) b b2 v hV S h1, fun _ => rfl⟩
    · rw [if_neg h1]
      rcases os_last E HO hJ hJR p31 S with ⟨x1, x2, x3⟩ | ⟨j, y1, y2, y3, y4, y5, y6⟩
      · have hz := hV.1
        rw [sI_zero (fun h hh => onV_no (x3 h hh))] at hz
        have hb := hJR.1 p
        rw [Int32.le_iff_toInt_le] at h1
        omega
      · have j31 : j < 2 ^ 31 := Nat.lt_trans y1 (tn_lt _)
        obtain ⟨q1, q2⟩ := ov_drop hJ hJR hV y1 y4 y5
        rw [y3, y2]
        unfold s_X9_over_c48
        try dsimp only
        rw [nI_clamp j31]
        by_cases h2 : nI i = a2
        · rw [if_pos h2]
          refine ⟨fun p0 pi => ?_, fun neg => ?_⟩
          · have ei : a2.toNatClampNeg - i = 0 := by rw [← h2, nI_clamp i31]; omega
            rw [ei]
            refine (c36_r σx (nI p) a2 (nI j) v ?_ (m1_ne j31) ?_).trans rfl
            · rw [← h2]; exact nI_n0 i31
            · rw [nI_clamp p31, g4]; exact h1
          · rw [← h2, nI_toInt i31] at neg
            omega
        · rw [if_neg h2]
          have i19 : m ≠ 0 := fun z => by
            subst z
            exact ov_zero q1
          have e20 : ¬ (20 : Int32) ≤ nI i := by
            rw [Int32.le_iff_toInt_le, nI_toInt i31, show (20 : Int32).toInt = 20 by decide]
            omega
          have en : nI i + 1 = nI (i + 1) := by
            rw [← Int32.toInt_inj, nI_toInt (by omega), add_ti (by rw [nI_toInt i31, show (1 : Int32).toInt = 1 by decide]; omega) (by rw [nI_toInt i31, show (1 : Int32).toInt = 1 by decide]; omega), nI_toInt i31, show (1 : Int32).toInt = 1 by decide]
            omega
          have H := ih (i + 1) (σm 39 j) (σx 204 j) (v - s_X9_partsOfHerd σm (nI j)) (by omega) q1 y6
          rw [en]
          refine ⟨fun p0 pi => ?_, fun neg => H.2 neg⟩
          have lt : i < a2.toNatClampNeg := by
            refine Nat.lt_of_le_of_ne pi (fun e => h2 ?_)
            rw [← Int32.toInt_inj, nI_toInt i31, e, tn_toInt]
            omega
          obtain ⟨f, hf⟩ : ∃ f, a2.toNatClampNeg - i = f + 1 := ⟨a2.toNatClampNeg - i - 1, by omega⟩
          have hf2 : a2.toNatClampNeg - (i + 1) = f := by omega
          have H1 := H.1 p0 (by omega)
          rw [hf2] at H1
          rw [hf]
          have eC : iterC (s_X8_over_l36 σx (nI p)) (f + 1) i (nI j, v) = iterC1 (s_X8_over_l36 σx (nI p)) f i (nI j, v) (s_X8_over_l36 σx (nI p) i (nI j, v)) := rfl
          have eS : s_X8_over_l36 σx (nI p) i (nI j, v) = some (s_X8_latestOn σx (nI p) (σx 204 j), v - s_X9_partsOfHerd σm (nI j)) := by
            unfold s_X8_over_l36
            try dsimp only
            rw [if_neg e20, if_neg (m1_ne j31), nI_clamp j31, pp_eq E (ir_36 hJ j) j31]
          rw [eC, eS]
          exact H1
theorem eqB_over {k : Nat} {σx σm : St} (hk : k ≤ 511) (hI : IX σx) (hJ : IR σm) (hJR : JR σm) (hR : RelB k σx σm) (a1 a2 : Int32) : (s_X8_over σx a1 a2).1 = (s_X9_over σm a1 a2).1 := by
  obtain ⟨E, G, HP, HU, HO, K, K2⟩ := hR
  have e1 : σx 811 = σm 2 := E.1
  have e18 : σx 203 = σm 38 := E.2.2.2.2.2.2.2.2.2.2.2.2.2.2.2.2.2
  have g4 : σx 401 = σm 15 := G.2.2.2.1
  unfold s_X8_over s_X9_over
  rw [ra_ip, e1]
  by_cases h1 : s_X9_isIn a1 (σm 2 0) = 0
  · rw [if_pos h1, if_pos h1]
    rfl
  · rw [if_neg h1, if_neg h1]
    obtain ⟨p, hp, rfl⟩ := vp_in_of (in_vp.mpr h1) (tn_lt _)
    have p31 : p < 2 ^ 31 := Nat.lt_trans hp (tn_lt _)
    rw [po_eq E hJ hJR.2.2.2 p31]
    have o1 : (1 : Int32).toInt = 1 := by decide
    have hS : OS σx σm (nI p) (σm 7 0) (σx 817 0 + 1) := by
      intro h hh
      constructor
      · rintro ⟨q1, q2, q3⟩
        refine ⟨by rw [e18]; exact q2, ?_⟩
        have := HO.2.1 h hh (by rw [q2]; exact nI_n0 p31)
        have := HO.1
        rw [Int32.le_iff_toInt_le, add_ti (by rw [o1]; omega) (by rw [o1]; omega), o1]
        omega
      · rintro ⟨q2, q3⟩
        rw [e18] at q2
        have ho := out_1 hJR.2.2.2 hh p31 q2
        exact ⟨ho, q2, hJR.2.1 h hh (isOut_oP (Nat.lt_trans hh (tn_lt _)) ho)⟩
    have M := ov_main E HO g4 hJ hJR p31 a2 _ 0 (σm 7 0) (σx 817 0 + 1) (s_X9_partsOn σm (nI p)) (Nat.zero_add _) (ov_start hJ hJR (nI p)) hS
    by_cases n : a2.toInt < 0
    · refine (c36_9 _ _ _ _ (Or.inl ?_)).trans (M.2 n).symm
      rw [Int32.lt_iff_toInt_lt]
      exact n
    · exact M.1 (by omega) (Nat.zero_le _)
