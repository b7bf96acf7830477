/-! turns: a plan is made -/
theorem dhun_b {u w : Nat → Int32} {c : Int32} {n : Nat} (hn : n ≤ 20) (hw : ∀ h, 0 ≤ (w h).toInt ∧ (w h).toInt ≤ 4500) (water gr : Int32) (hg : 0 ≤ gr.toInt) (h : Nat) : 0 ≤ (dHun u w c n water gr h).toInt ∧ (dHun u w c n water gr h).toInt ≤ 9001 := by
  have z : (0 : Int32).toInt = 0 := by decide
  have o1 : (1 : Int32).toInt = 1 := by decide
  obtain ⟨b1, b2, -⟩ := dall_bd (u := u) (w := w) (c := c) hn (fun h _ => hw h)
  have sb : 0 ≤ (dShare u w c n (dAll u w c n - dEat (dAll u w c n) gr) (dAll u w c n) h).toInt ∧ (dShare u w c n (dAll u w c n - dEat (dAll u w c n) gr) (dAll u w c n) h).toInt ≤ 4501 := by
    unfold dShare
    by_cases ha : dAll u w c n ≤ 0
    · rw [if_pos ha, z]
      omega
    · rw [if_neg ha]
      rw [Int32.le_iff_toInt_le, z] at ha
      have hl : 0 ≤ (dAll u w c n - dEat (dAll u w c n) gr).toInt ∧ (dAll u w c n - dEat (dAll u w c n) gr).toInt ≤ (dAll u w c n).toInt := by
        unfold dEat
        by_cases q : dAll u w c n < gr
        · rw [if_pos q, sub_ti (by omega) (by omega)]
          omega
        · rw [if_neg q]
          rw [Int32.lt_iff_toInt_lt] at q
          rw [sub_ti (by omega) (by omega)]
          omega
      obtain ⟨-, d2, -, d4, -, -⟩ := dq_ti hl ⟨by omega, b2⟩ (hw h)
      have q0 : 0 ≤ (dQ (dAll u w c n - dEat (dAll u w c n) gr) (dAll u w c n) (w h)).toInt := by
        rw [d2]
        exact Int.ediv_nonneg d4 (by omega)
      have q1 : (dQ (dAll u w c n - dEat (dAll u w c n) gr) (dAll u w c n) (w h)).toInt ≤ 4500 := by
        rw [d2]
        have m1 : (dAll u w c n - dEat (dAll u w c n) gr).toInt * (w h).toInt ≤ (dAll u w c n).toInt * (w h).toInt := Int.mul_le_mul_of_nonneg_right hl.2 (hw h).1
        have m2 := Int.ediv_le_ediv (show 0 < (dAll u w c n).toInt by omega) m1
        rw [Int.mul_ediv_cancel_left _ (by omega)] at m2
        have := (hw h).2
        omega
      split
      · rw [Int32.add_zero]
        omega
      · rw [add_ti (by rw [o1]; omega) (by rw [o1]; omega), o1]
        omega
  unfold dHun
  have wb := hw h
  split
  · rw [add_ti (by omega) (by omega)]
    omega
  · rw [Int32.add_zero]
    omega
theorem ht_b {σ : St} (K : KC σ) (R22 : ∀ i : Nat, 0 ≤ (σ 22 i).toInt ∧ (σ 22 i).toInt ≤ 1000) (hw : ∀ h, 0 ≤ (wM σ h).toInt ∧ (wM σ h).toInt ≤ 4500) (U : Nat → Nat → Int32) {n : Nat} (n20 : n ≤ 20) (P6 : (σ 2 0).toNatClampNeg ≤ 6) (d h : Nat) : 0 ≤ (hT σ U n d h).toInt ∧ (hT σ U n d h).toInt ≤ 54006 := by
  have z : (0 : Int32).toInt = 0 := by decide
  have b := sm_bd (f := fun p => if U d h = nI p then hP σ U n p d h else 0) (B := 9001) (N := 6) (by decide) P6 (fun p _ => by
    have := dhun_b (u := U d) (c := nI p) n20 hw (σ 18 p) (grP σ U n p d) (grp_b K R22 hw U n20 p d) h
    show 0 ≤ (if U d h = nI p then hP σ U n p d h else 0).toInt ∧ (if U d h = nI p then hP σ U n p d h else 0).toInt ≤ ((9001 : Nat) : Int)
    split
    · exact this
    · rw [z]; omega)
  unfold hT
  exact ⟨b.1, by have := b.2; omega⟩
theorem bt_nI : ∀ m j : Nat, m < 16 → j < 32 → bt (nI m) j = m.testBit j := fun m j hm hj => (by decide +kernel : ∀ m, m < 16 → ∀ j, j < 32 → bt (nI m) j = m.testBit j) m hm j hj
def cU (σm : St) (w i1 i2 D p : Nat) (v : Int32) (d h : Nat) : Int32 := if h = i1 then (if bt v (d / D * w) = true then nI p else -1) else if w = 2 ∧ h = i2 then (if bt v (d / D * w + 1) = true then nI p else -1) else σm 38 h
theorem cu_t {σ1 σm : St} (e18 : σ1 203 = σm 38) {w i1 i2 D p : Nat} (p31 : p < 2 ^ 31) (v : Int32) {s k h : Nat} (hk : k < D) : cU σm w i1 i2 D p v (s * D + k) h = nI p ↔ thr σ1 w i1 i2 p v s h := by
  have n1 : ¬ (-1 : Int32) = nI p := fun e => m1_ne p31 e.symm
  unfold cU thr
  rw [dv hk, e18]
  by_cases c1 : h = i1
  · rw [if_pos c1, if_pos c1]
    by_cases c : bt v (s * w) = true
    · rw [if_pos c]
      exact ⟨fun _ => c, fun _ => rfl⟩
    · rw [if_neg c]
      exact ⟨fun z => absurd z n1, fun z => absurd z c⟩
  · rw [if_neg c1, if_neg c1]
    by_cases c2 : w = 2 ∧ h = i2
    · rw [if_pos c2, if_pos c2]
      by_cases c : bt v (s * w + 1) = true
      · rw [if_pos c]
        exact ⟨fun _ => c, fun _ => rfl⟩
      · rw [if_neg c]
        exact ⟨fun z => absurd z n1, fun z => absurd z c⟩
    · rw [if_neg c2, if_neg c2]
theorem sm_cut {f : Nat → Int32} {P n : Nat} (h : P ≤ n) : Sm (fun p => if p < P then f p else 0) n = Sm f P := by
  obtain ⟨b, rfl⟩ : ∃ b, n = P + b := ⟨n - P, by omega⟩
  rw [sm_split, sm_0 (n := b) (fun k _ => if_neg (by omega)), Int32.add_zero]
  exact sm_ext (fun k hk => if_pos hk)
theorem sm_if {f : Nat → Int32} {c : Prop} [Decidable c] (n : Nat) : Sm (fun d => if c then f d else 0) n = if c then Sm f n else 0 := by
  by_cases h : c
  · rw [if_pos h]
    exact sm_ext (fun k _ => if_pos h)
  · rw [if_neg h]
    exact sm_0 (fun k _ => if_neg h)
/-- the hunger of all pieces is the hunger of the days -/
theorem sum_pd (σm : St) (U : Nat → Nat → Int32) (n w i1 i2 T : Nat) : Sm (fun p => Sm (hv1 σm U n w i1 i2 p) T) (σm 2 0).toNatClampNeg = Sm (fun d => hT σm U n d i1 + (if w = 2 then hT σm U n d i2 else 0)) T := by
  rw [sm_swap]
  refine sm_ext (fun d _ => ?_)
  show Sm (fun p => hv1 σm U n w i1 i2 p d) (σm 2 0).toNatClampNeg = _
  unfold hv1 hT
  rw [← sm_plus, sm_if]
/-- what stands behind reckonTurns -/
theorem rk_601 {σb : St} {A : Nat} (h8 : (σb 608 0).toNatClampNeg = A) (A4 : A ≤ 4) : (∀ f : Nat, f ≠ 601 → iter s_X8_reckonTurns_l2 A 0 σb f = σb f) ∧ ∀ s : Nat, s < A → iter s_X8_reckonTurns_l2 A 0 σb 601 s = s_X8_openPieces σb (σb 816 0 + 1 + nI s * σb 609 0) := by
  refine it_ind (L := s_X8_reckonTurns_l2) (P := fun k (t : St) => (∀ f : Nat, f ≠ 601 → t f = σb f) ∧ ∀ s : Nat, s < k → t 601 s = s_X8_openPieces σb (σb 816 0 + 1 + nI s * σb 609 0)) ⟨fun _ _ => rfl, fun s h => absurd h (Nat.not_lt_zero s)⟩ A (fun k t _ ih => ?_)
  have eo : ∀ d, s_X8_openPieces t d = s_X8_openPieces σb d := fun d => by
    have : s_X8_openPieces_l4 t d = s_X8_openPieces_l4 σb d := by
      funext a b
      unfold s_X8_openPieces_l4 s_X4_restsOn
      rw [ih.1 404 (by decide)]
    unfold s_X8_openPieces
    rw [this, ih.1 811 (by decide)]
  unfold s_X8_reckonTurns_l2
  try dsimp only
  rw [eo, ih.1 816 (by decide), ih.1 609 (by decide)]
  refine ⟨fun f q => (put_fr q).trans (ih.1 f q), fun s hs => ?_⟩
  show upd (t 601) k _ s = _
  by_cases q : s = k
  · rw [q, pk_us]
  · rw [pk_un q]
    exact ih.2 s (by omega)
theorem l8_e (σ : St) (b1 : Int32) {P : Nat} (hb : b1 = nI P) (P6 : P ≤ 6) : ∀ S : Nat, S ≤ 4 → (iter (s_X6_choose_l8 b1) S 0 ((1 : Int32), σ)).1 = nI (P ^ S) ∧ (∀ f : Nat, f ≠ 602 → (iter (s_X6_choose_l8 b1) S 0 ((1 : Int32), σ)).2 f = σ f) ∧ ∀ k, k < S → (iter (s_X6_choose_l8 b1) S 0 ((1 : Int32), σ)).2 602 k = 0 := by
  intro S
  induction S with
  | zero => intro _; exact ⟨by rw [Nat.pow_zero]; show (1 : Int32) = nI 1; decide, fun _ _ => rfl, fun k h => absurd h (Nat.not_lt_zero k)⟩
  | succ S ih =>
    intro hS
    obtain ⟨i1, i2, i3⟩ := ih (by omega)
    rw [iter_snoc, Nat.zero_add]
    generalize iter (s_X6_choose_l8 b1) S 0 ((1 : Int32), σ) = r at i1 i2 i3
    obtain ⟨v, t⟩ := r
    have i1 : v = nI (P ^ S) := i1
    have i2 : ∀ f : Nat, f ≠ 602 → t f = σ f := i2
    have i3 : ∀ k, k < S → t 602 k = 0 := i3
    unfold s_X6_choose_l8
    try dsimp only
    have b : P ^ S ≤ 216 := by
      have : P ^ S ≤ 6 ^ S := Nat.pow_le_pow_left P6 S
      have : 6 ^ S ≤ 6 ^ 3 := Nat.pow_le_pow_right (by decide) (by omega)
      omega
    have b2 : P ^ S * P ≤ 216 * 6 := Nat.mul_le_mul b P6
    refine ⟨?_, fun f q => (put_fr q).trans (i2 f q), fun k hk => ?_⟩
    · show v * b1 = nI (P ^ (S + 1))
      rw [i1, hb, Nat.pow_succ, ← Int32.toInt_inj, nI_toInt (by omega), mul_ti (by rw [nI_toInt (by omega), nI_toInt (by omega), ← Int.natCast_mul]; omega) (by rw [nI_toInt (by omega), nI_toInt (by omega), ← Int.natCast_mul]; omega), nI_toInt (by omega), nI_toInt (by omega), ← Int.natCast_mul]
    · show upd (t 602) S 0 k = 0
      by_cases q : k = S
      · rw [q, pk_us]
      · rw [pk_un q]
        exact i3 k (by omega)
theorem dm {k w : Nat} (hw : 0 < w) : k / w * w + k % w = k := by
  rw [Nat.mul_comm]
  exact Nat.div_add_mod k w
theorem mk_plan {k : Nat} {σx σm : St} (hJ : IR σm) (hJR : JR σm) (hB : RelB k σx σm) (hC : RC σx σm) {a1 a2 a3 a4 : Int32} (g1 : ¬ s_X9_isIn a1 (σm 6 0) = 0) (g2 : ¬ a1 = a2) (g3 : ¬ a3 < 1) (g4 : ¬ a4 < 1) (g5 : a4 ≤ 10) (g6 : σm 1 0 + a3 * a4 ≤ 720) (g7 : ∀ s : Nat, s < a3.toNatClampNeg → opn σm a4 s) (g8 : a2 = -1) (g9 : ¬ (4 : Int32) < a3) : ∃ (vx vm : Int32) (x y : St), s_X6_choose (s_X8_reckonTurns (s_X6_begin σx a1 a2 a3 a4)) ((s_X8_reckonTurns (s_X6_begin σx a1 a2 a3 a4)) 811 0) = (vx, x) ∧ s_X9_plan_c237 σm a1 a2 a3 a4 (iter s_X9_plan_l237 (((1 : Int32) * a3).toNatClampNeg - 0) 0 σm) = (vm, put (put y 49 0 a3) 50 0 (1 : Int32)) ∧ vx = vm ∧ 0 ≤ vm.toInt ∧ x 607 0 = (1 : Int32) ∧ x 608 0 = a3 ∧ (∀ q, q < ((1 : Int32) * a3).toNatClampNeg → x 603 q = y 48 q) ∧ x 810 = σx 810 ∧ y 0 = σm 0 := by
  obtain ⟨E, G, HP, -, -, K, -⟩ := hB
  obtain ⟨c1, c2, c3, c4, c5, c6, c7⟩ := hC
  obtain ⟨e1, e2, e3, e4, e5, e6, e7, e8, e9, e10, e11, e12, e13, e14, e15, e16, e17, e18⟩ := id E
  obtain ⟨g1', g2', g3', g4', g5', g6', g7', g8', g9', g10'⟩ := id G
  have z : (0 : Int32).toInt = 0 := by decide
  have o1 : (1 : Int32).toInt = 1 := by decide
  have t10 : (10 : Int32).toInt = 10 := by decide
  have tM : (4 : Int32).toInt = 4 := by decide
  have t7 : (720 : Int32).toInt = 720 := by decide
  rw [Int32.lt_iff_toInt_lt, o1] at g3 g4
  rw [Int32.le_iff_toInt_le, t10] at g5
  rw [Int32.lt_iff_toInt_lt, tM] at g9
  -- numbers
  obtain ⟨A, hA⟩ : ∃ A, a3.toNatClampNeg = A := ⟨_, rfl⟩
  obtain ⟨D, hD⟩ : ∃ D, a4.toNatClampNeg = D := ⟨_, rfl⟩
  have eA : a3 = nI A := by rw [← hA]; exact nI_v (by omega)
  have eD : a4 = nI D := by rw [← hD]; exact nI_v (by omega)
  have A1 : 0 < A := by rw [← hA, tn_toInt]; omega
  have AM : A ≤ 4 := by rw [← hA, tn_toInt]; omega
  have A4 : A ≤ 4 := by omega
  have D1 : 0 < D := by rw [← hD, tn_toInt]; omega
  have D10 : D ≤ 10 := by rw [← hD, tn_toInt]; omega
  have AD : A * D ≤ 40 := Nat.mul_le_mul A4 D10
  obtain ⟨n, hn⟩ : ∃ n, (σm 6 0).toNatClampNeg = n := ⟨_, rfl⟩
  have n20 : n ≤ 20 := by rw [← hn]; exact cnt_le (ir_6 hJ)
  obtain ⟨P, hP⟩ : ∃ P, (σm 2 0).toNatClampNeg = P := ⟨_, rfl⟩
  have P6 : P ≤ 6 := by rw [← hP]; exact cnt_le (ir_2 hJ)
  have eP : σm 2 0 = nI P := by rw [← hP]; exact nI_v (ir_2 hJ).1
  have d0 := (ir_1 hJ).1
  have d7 := (ir_1 hJ).2
  have hd : (σm 1 0).toNatClampNeg + A * D ≤ 720 := by
    have e : a3 * a4 = nI (A * D) := by rw [eA, eD]; exact nI_mu (by omega) (by omega) (by omega)
    rw [e, nI_v d0, nI_ad (by rw [tn_toInt]; omega), Int32.le_iff_toInt_le, nI_toInt (by rw [tn_toInt]; omega), t7] at g6
    omega
  have P0 : 0 < P := by
    obtain ⟨p, hp, -⟩ := g7 0 (by rw [hA]; exact A1)
    rw [hP] at hp
    omega
  obtain ⟨i1, hi1, ei1⟩ := vp_in_of (in_vp.mpr g1) (tn_lt _)
  rw [hn] at hi1
  obtain ⟨i2, hi2⟩ : ∃ i2 : Nat, 1 = 2 → i2 < n ∧ i1 ≠ i2 := ⟨0, fun q => absurd q (by decide)⟩
  have ha2 : (1 = 2 → a2 = nI i2) ∧ (1 = 1 → a2 = -1) := ⟨fun q => absurd q (by decide), fun _ => g8⟩
  have eN : (1 : Int32) = nI 1 := by decide
  have hS : ((1 : Int32) * a3).toNatClampNeg = 1 * A := by
    rw [eN, eA, nI_mu (by omega) (by omega) (by omega), nI_clamp (by omega)]
  have S4 : 1 * A ≤ 4 := by omega
  have w12 : 1 = 1 ∨ 1 = 2 := by decide
  have h9 : ∀ h : Nat, (0 ≤ (σm 36 h).toInt ∧ (σm 36 h).toInt < 3) ∧ (0 ≤ (σm 37 h).toInt ∧ (σm 37 h).toInt ≤ 100) := fun h => ⟨ir_36 hJ h, ir_37 hJ h⟩
  have hw : ∀ h, 0 ≤ (wM σm h).toInt ∧ (wM σm h).toInt ≤ 4500 := ph_b h9
  have KCm := kc_of hJ
  -- the class's states
  obtain ⟨σb, hσb⟩ : ∃ s, s_X6_begin σx a1 a2 a3 a4 = s := ⟨_, rfl⟩
  have eb : σb = put (put (put (put (put σx 605 0 a1) 606 0 a2) 607 0 (1 : Int32)) 608 0 a3) 609 0 a4 := by
    rw [← hσb]
    unfold s_X6_begin
    rw [if_pos g8]
  have fb : ∀ f : Nat, (f < 605 ∨ 610 ≤ f) → σb f = σx f := fun f q => by
    rw [eb]
    exact (put_fr (by omega)).trans ((put_fr (by omega)).trans ((put_fr (by omega)).trans ((put_fr (by omega)).trans (put_fr (by omega)))))
  have b605 : σb 605 0 = nI i1 := by rw [eb, ← ei1]; rfl
  have b606 : σb 606 0 = a2 := by rw [eb]; rfl
  have b607 : σb 607 0 = nI 1 := by rw [eb, ← eN]; rfl
  have b608 : σb 608 0 = nI A := by rw [eb, ← eA]; rfl
  have b609 : σb 609 0 = nI D := by rw [eb, ← eD]; rfl
  obtain ⟨r1, r2⟩ := rk_601 (σb := σb) (A := A) (by rw [b608, nI_clamp (by omega)]) A4
  obtain ⟨σ1, hσ1⟩ : ∃ s, iter s_X8_reckonTurns_l2 A 0 σb = s := ⟨_, rfl⟩
  rw [hσ1] at r1 r2
  have f1 : ∀ f : Nat, (f < 601 ∨ 610 ≤ f) → σ1 f = σx f := fun f q => (r1 f (by omega)).trans (fb f (by omega))
  obtain ⟨xR, hxR⟩ : ∃ s, s_X8_reckonTurns_c2 σ1 = s := ⟨_, rfl⟩
  have eR : s_X8_reckonTurns σb = xR := by
    unfold s_X8_reckonTurns
    rw [b608, nI_clamp (by omega), Nat.sub_zero, hσ1, hxR]
  have hRf : ∀ f : Nat, (f < 300 ∨ 307 ≤ f) → (f < 620 ∨ 626 ≤ f) → f ≠ 601 → xR f = σb f := fun f p q r => by
    rw [← eR]
    exact fr_s_X8_reckonTurns σb (by omega) (by omega) (by omega) (by omega) (by omega) (by omega) (by omega) r (by omega) (by omega) (by omega) (by omega) (by omega) (by omega)
  have E1 : RE σ1 σm := by
    unfold RE
    rw [f1 811 (by decide), f1 812 (by decide), f1 813 (by decide), f1 814 (by decide), f1 815 (by decide), f1 816 (by decide), f1 803 (by decide), f1 0 (by decide), f1 1 (by decide), f1 2 (by decide), f1 3 (by decide), f1 5 (by decide), f1 6 (by decide), f1 8 (by decide), f1 200 (by decide), f1 201 (by decide), f1 202 (by decide), f1 203 (by decide)]
    exact E
  have s605 : σ1 605 0 = nI i1 := by rw [r1 605 (by decide), b605]
  have s606 : σ1 606 0 = a2 := by rw [r1 606 (by decide), b606]
  have s607 : σ1 607 0 = nI 1 := by rw [r1 607 (by decide), b607]
  have s608 : σ1 608 0 = nI A := by rw [r1 608 (by decide), b608]
  have s609 : σ1 609 0 = nI D := by rw [r1 609 (by decide), b609]
  have HV := fun (τ : St) (p : Nat) (v : Int32) (U : Nat → Nat → Int32) (p31 : p < 2 ^ 31) (hτ : ∀ f : Nat, (f < 300 ∨ 307 ≤ f) → (f < 620 ∨ 626 ≤ f) → τ f = σ1 f) (hU : ∀ s k h, s < A → k < D → h < n → (U (s * D + k) h = nI p ↔ thr σ1 1 i1 i2 p v s h)) => hv_eq (σ1 := σ1) (σm := σm) (w := 1) (i1 := i1) (i2 := i2) (p := p) (n := n) (A := A) (D := D) (v := v) (a2 := a2) E1 ((f1 400 (by decide)).trans g3') ((f1 402 (by decide)).trans g5') ((f1 700 (by decide)).trans g10') ((f1 403 (by decide)).trans c1) (fun d dd => by rw [f1 701 (by decide)]; exact c4 d dd) KCm c7 h9 w12 hn n20 hi1 hi2 s605 s606 s607 s608 s609 ha2 p31 A4 D1 D10 d0 hd hτ U hU
  have hslot : ∀ x : St, x 607 = σ1 607 → x 608 = σ1 608 → s_X6_slots x = nI (1 * A) := fun x p q => slots_eq (by rw [p]; exact s607) (by rw [q]; exact s608) S4 (by decide) A4
  have TAB := tab_eq (σ1 := σ1) (P := P) (S := 1 * A) (V := fun p v => Sm (hv1 σm (cU σm 1 i1 i2 D p (nI v)) n 1 i1 i2 p) (A * D)) P6 S4 (by rw [f1 811 (by decide), e1, hP]) hslot (fun τ p v hτ hp _ _ => HV τ p (nI v) (cU σm 1 i1 i2 D p (nI v)) (by omega) hτ (fun s k h _ hk _ => cu_t ((f1 203 (by decide)).trans e18) (by omega) (nI v) hk))
  rw [hxR] at TAB
  obtain ⟨hR1, TAB⟩ := TAB
  have R607 : xR 607 = σ1 607 := hR1 607 (by decide) (by decide)
  have R608 : xR 608 = σ1 608 := hR1 608 (by decide) (by decide)
  -- the value of a trial
  obtain ⟨UY, hUY⟩ : ∃ UY : St → Nat → Nat → Int32, UY = fun y d => uT σm 1 i1 i2 (y 47) (d / D) := ⟨_, rfl⟩
  have hx : ∀ x y : St, (∀ f : Nat, f ≠ 602 → f ≠ 603 → f ≠ 604 → x f = xR f) → (∀ f : Nat, f ≠ 43 → f ≠ 44 → f ≠ 45 → f ≠ 46 → f ≠ 47 → f ≠ 48 → y f = σm f) → JD P (1 * A) x y → (¬ s_X6_isOpen x = 0 ↔ ∀ k, k < 1 * A → ¬ s_X9_mayTake y (nI k / (1 : Int32)) (y 47 k) a4 = 0) ∧ (s_X6_hungerOfTrial x).1 = Sm (fun d => hT σm (UY y) n d i1 + (if 1 = 2 then hT σm (UY y) n d i2 else 0)) (A * D) ∧ (s_X9_tries y a1 a2 (1 : Int32) a3 a4).1 = Sm (fun d => hT σm (UY y) n d i1 + (if 1 = 2 then hT σm (UY y) n d i2 else 0)) (A * D) := by
    intro x y fx fy D0
    obtain ⟨dg, ok⟩ := D0
    have x607 : x 607 0 = nI 1 := by rw [fx 607 (by decide) (by decide) (by decide), R607]; exact s607
    have x608 : x 608 0 = nI A := by rw [fx 608 (by decide) (by decide) (by decide), R608]; exact s608
    have dig : ∀ k, k < 1 * A → ∃ q, q < P ∧ y 47 k = nI q ∧ x 602 k = nI q := fun k hk => ⟨(y 47 k).toNatClampNeg, (ok k hk).2, nI_v (ok k hk).1, by rw [dg k hk]; exact nI_v (ok k hk).1⟩
    have hT6 : ∀ k, k < 1 * A → 0 ≤ (x 602 k).toInt ∧ (x 602 k).toNatClampNeg < 6 := fun k hk => by
      rw [dg k hk]
      have := (ok k hk).2
      exact ⟨(ok k hk).1, by omega⟩
    have mtf : ∀ a b, s_X9_mayTake y a b a4 = s_X9_mayTake σm a b a4 := fun a b => by
      unfold s_X9_mayTake
      rw [fy 1 (by decide) (by decide) (by decide) (by decide) (by decide) (by decide), fy 16 (by decide) (by decide) (by decide) (by decide) (by decide) (by decide)]
    have bitm : ∀ s q, s < A → q < P → (bt (x 601 s) q = true ↔ ¬ s_X9_mayTake σm (nI s) (nI q) a4 = 0) := fun s q hs hq => by
      have e601 : x 601 s = s_X8_openPieces σb (σb 816 0 + 1 + nI s * σb 609 0) := by
        rw [fx 601 (by decide) (by decide) (by decide), hR1 601 (by decide) (by decide)]
        exact r2 s hs
      have nb : (σb 811 0).toNatClampNeg = P := by rw [fb 811 (by decide), e1, hP]
      rw [e601, op_bit σb _ (by rw [nb]; exact P6) (by omega), nb, decide_eq_true_iff, b609, ← eD]
      have m := mt_eq (σx := σb) (σm := σm) ((fb 816 (by decide)).trans e6) ((fb 404 (by decide)).trans g6') (p := q) (by omega) (nI s) a4
      exact ⟨fun w => m.mp w.2, fun w => ⟨hq, m.mpr w⟩⟩
    refine ⟨?_, ?_, ?_⟩
    · rw [io_eq x607 x608 (by decide) A4 hT6]
      constructor
      · intro h k hk
        obtain ⟨q, hq, eq1, eq2⟩ := dig k hk
        have ks : k / 1 < A := Nat.div_lt_of_lt_mul hk
        have b := h (k / 1) ks (k % 1) (Nat.mod_lt _ (by decide))
        rw [dm (by decide), eq2, nI_clamp (by omega)] at b
        rw [mtf, eq1]
        have ek : nI k / (1 : Int32) = nI (k / 1) := by
          rw [eN, ← Int32.toInt_inj, div_ti (by rw [nI_toInt (by omega)]; omega) (by rw [nI_toInt (by decide)]; decide), nI_toInt (by omega), nI_toInt (by decide), nI_toInt (by omega)]
          rfl
        rw [ek]
        exact (bitm _ q ks hq).mp b
      · intro h s hs k hk
        have lim : s * 1 + k < 1 * A := by
          have : (s + 1) * 1 ≤ A * 1 := Nat.mul_le_mul_right _ hs
          rw [Nat.succ_mul, Nat.mul_comm A] at this
          omega
        obtain ⟨q, hq, eq1, eq2⟩ := dig _ lim
        have b := h _ lim
        rw [mtf, eq1] at b
        have ek : nI (s * 1 + k) / (1 : Int32) = nI s := by
          rw [eN, ← Int32.toInt_inj, div_ti (by rw [nI_toInt (by omega)]; omega) (by rw [nI_toInt (by decide)]; decide), nI_toInt (by omega), nI_toInt (by decide), nI_toInt (by omega)]
          omega
        rw [ek] at b
        rw [eq2, nI_clamp (by omega)]
        exact (bitm s q hs hq).mpr b
    · have xsl : s_X6_slots x = nI (1 * A) := slots_eq x607 x608 S4 (by decide) A4
      rw [ht_eq (τ := x) S4 xsl (fun t p q => slots_eq (by rw [p]; exact x607) (by rw [q]; exact x608) S4 (by decide) A4) (fun k hk => (hT6 k hk).2) (F := fun p => if p < P then Sm (hv1 σm (UY y) n 1 i1 i2 p) (A * D) else 0) (fun p m hp hm hb => ?_), sm_cut P6, ← hP, sum_pd]
      have S16 : 2 ^ (1 * A) ≤ 16 := by
        have : 2 ^ (1 * A) ≤ 2 ^ 4 := Nat.pow_le_pow_right (by decide) S4
        omega
      have com : ∀ s k h, s < A → k < D → h < n → (UY y (s * D + k) h = nI p ↔ thr σ1 1 i1 i2 p (nI m) s h) := fun s k h hs hk hh => by
        rw [hUY]
        show uT σm 1 i1 i2 (y 47) ((s * D + k) / D) h = nI p ↔ _
        rw [dv hk]
        unfold uT thr
        rw [f1 203 (by decide), e18]
        have sl : ∀ j, j < 1 → s * 1 + j < 1 * A := fun j hj => by
          have : (s + 1) * 1 ≤ A * 1 := Nat.mul_le_mul_right _ hs
          rw [Nat.succ_mul, Nat.mul_comm A] at this
          omega
        have bit : ∀ j, j < 1 → (y 47 (1 * s + j) = nI p ↔ bt (nI m) (s * 1 + j) = true) := fun j hj => by
          have l := sl j hj
          rw [bt_nI m _ (by omega) (by omega), hb _ l, Nat.mul_comm 1 s]
          obtain ⟨q, hq, eq1, eq2⟩ := dig _ l
          rw [eq1, eq2, nI_clamp (by omega)]
          exact ⟨fun e => nI_inj (by omega) (by omega) e, fun e => by rw [e]⟩
        by_cases d1 : h = i1
        · rw [if_pos d1, if_pos d1]
          exact bit 0 (by decide)
        · rw [if_neg d1, if_neg d1]
          rw [if_neg (fun q => absurd q.1 (by decide)), if_neg (fun q => absurd q.1 (by decide))]
      refine ⟨fun m0 => ?_, fun m0 => ?_⟩
      · show (if p < P then Sm (hv1 σm (UY y) n 1 i1 i2 p) (A * D) else 0) = 0
        by_cases pP : p < P
        · rw [if_pos pP]
          refine sm_0 (fun d dd => ?_)
          have hs : d / D < A := Nat.div_lt_of_lt_mul (by rw [Nat.mul_comm]; exact dd)
          have ed : d = d / D * D + d % D := (dm D1).symm
          have nb : ∀ j, j < 1 → ¬ bt (nI m) (d / D * 1 + j) = true := fun j hj q => by
            have : d / D * 1 + j < 1 * A := by
              have : (d / D + 1) * 1 ≤ A * 1 := Nat.mul_le_mul_right _ hs
              rw [Nat.succ_mul, Nat.mul_comm A] at this
              omega
            rw [bt_nI m _ (by omega) (by omega), m0, Nat.zero_testBit] at q
            cases q
          have u1 : ¬ UY y d i1 = nI p := fun q => by
            rw [ed] at q
            have := (com _ _ i1 hs (Nat.mod_lt _ D1) hi1).mp q
            unfold thr at this
            rw [if_pos rfl] at this
            exact nb 0 (by decide) this
          unfold hv1
          rw [if_neg u1, Int32.zero_add]
          rw [if_neg (by decide)]
        · rw [if_neg pP]
      · have pP : p < P := by
          refine Decidable.byContradiction (fun q => ?_)
          have : m = 0 := by
            refine Nat.eq_of_testBit_eq (fun j => ?_)
            rw [Nat.zero_testBit]
            by_cases hj : j < 1 * A
            · cases e : m.testBit j with
              | false => rfl
              | true =>
                have := (hb j hj).mp e
                obtain ⟨q2, hq2, -, eq2⟩ := dig j hj
                rw [eq2, nI_clamp (by omega)] at this
                omega
            · exact Nat.testBit_lt_two_pow (Nat.lt_of_lt_of_le hm (Nat.pow_le_pow_right (by decide) (by omega)))
          omega
        show x (620 + p) m = if p < P then Sm (hv1 σm (UY y) n 1 i1 i2 p) (A * D) else 0
        rw [if_pos pP, fx (620 + p) (by omega) (by omega) (by omega), TAB p m pP m0 hm]
        rw [← HV σ1 p (nI m) (cU σm 1 i1 i2 D p (nI m)) (by omega) (fun _ _ _ => rfl) (fun s k h _ hk _ => cu_t ((f1 203 (by decide)).trans e18) (by omega) (nI m) hk)]
        exact HV σ1 p (nI m) (UY y) (by omega) (fun _ _ _ => rfl) com
    · rw [ei1, eN, eA, eD, hUY]
      exact tries_eq (σ := σm) (τ := y) hn n20 hw KCm c7 K hJR.2.2.2 fy w12 hi1 hi2 A4 D1 D10 d0 hd a2 ha2.1
  -- a trial that is open
  obtain ⟨ps, hps⟩ : ∃ ps : Nat → Nat, ∀ s, s < A → ps s < P ∧ ¬ s_X9_mayTake σm (nI s) (nI (ps s)) a4 = 0 := by
    have g : ∀ s, s < A → ∃ p, p < P ∧ ¬ s_X9_mayTake σm (nI s) (nI p) a4 = 0 := fun s hs => by
      obtain ⟨p, hp, q⟩ := g7 s (by rw [hA]; exact hs)
      exact ⟨p, by rw [← hP]; exact hp, q⟩
    exact ⟨fun s => if h : s < A then Classical.choose (g s h) else 0, fun s hs => by
      show (if h : s < A then Classical.choose (g s h) else 0) < P ∧ ¬ s_X9_mayTake σm (nI s) (nI (if h : s < A then Classical.choose (g s h) else 0)) a4 = 0
      rw [dif_pos hs]
      exact Classical.choose_spec (g s hs)⟩
  obtain ⟨st, hst⟩ : ∃ st : St, st = fun _ k => nI (ps (k / 1)) := ⟨_, rfl⟩
  have stok : okT st P (1 * A) := fun k hk => by
    rw [hst]
    have ks : k / 1 < A := Nat.div_lt_of_lt_mul hk
    have := (hps _ ks).1
    show 0 ≤ (nI (ps (k / 1))).toInt ∧ (nI (ps (k / 1))).toNatClampNeg < P
    rw [nI_toInt (by omega), nI_clamp (by omega)]
    exact ⟨by omega, this⟩
  -- the beginning of both loops
  have sR : s_X6_slots xR = nI (1 * A) := hslot xR R607 R608
  have x811 : xR 811 0 = nI P := by rw [hRf 811 (by decide) (by decide) (by decide), fb 811 (by decide), e1, eP]
  obtain ⟨l1, l2, l3⟩ := l8_e xR (xR 811 0) x811 P6 (1 * A) S4
  obtain ⟨px, hpx⟩ : ∃ p, iter (s_X6_choose_l8 (xR 811 0)) (1 * A) 0 ((1 : Int32), xR) = p := ⟨_, rfl⟩
  rw [hpx] at l1 l2 l3
  obtain ⟨tv, x0⟩ := px
  have l1 : tv = nI (P ^ (1 * A)) := l1
  have l2 : ∀ f : Nat, f ≠ 602 → x0 f = xR f := l2
  have l3 : ∀ k, k < 1 * A → x0 602 k = 0 := l3
  have PS : P ^ (1 * A) ≤ 1296 := by
    have : P ^ (1 * A) ≤ 6 ^ (1 * A) := Nat.pow_le_pow_left P6 _
    have : 6 ^ (1 * A) ≤ 6 ^ 4 := Nat.pow_le_pow_right (by decide) S4
    omega
  have PS0 : 0 < P ^ (1 * A) := Nat.pow_pos P0
  have c38 : ∀ q : Int32 × St, s_X6_choose_c38 q = q := fun q => by
    obtain ⟨a, b⟩ := q
    rfl
  have eC : s_X6_choose (s_X8_reckonTurns (s_X6_begin σx a1 a2 a3 a4)) ((s_X8_reckonTurns (s_X6_begin σx a1 a2 a3 a4)) 811 0) = iter (s_X6_choose_l38 (nI P)) (P ^ (1 * A)) 0 ((-9 : Int32), x0) := by
    rw [hσb, eR]
    unfold s_X6_choose
    rw [sR, nI_clamp (by omega), Nat.sub_zero, hpx]
    unfold s_X6_choose_c8
    try dsimp only
    rw [c38, l1, nI_clamp (by omega), Nat.sub_zero, x811]
  have zz := it_ind (L := s_X9_plan_l237) (P := fun k (t : St) => (∀ f : Nat, f ≠ 47 → t f = σm f) ∧ ∀ j, j < k → t 47 j = 0) (s := σm) ⟨fun _ _ => rfl, fun j h => absurd h (Nat.not_lt_zero j)⟩ (1 * A) (fun k t _ ih => by
    unfold s_X9_plan_l237
    try dsimp only
    refine ⟨fun f q => (put_fr q).trans (ih.1 f q), fun j hj => ?_⟩
    show upd (t 47) k 0 j = 0
    by_cases q : j = k
    · rw [q, pk_us]
    · rw [pk_un q]
      exact ih.2 j (by omega))
  obtain ⟨y0, hy0⟩ : ∃ y, iter s_X9_plan_l237 (1 * A) 0 σm = y := ⟨_, rfl⟩
  rw [hy0] at zz
  have eM : s_X9_plan_c237 σm a1 a2 a3 a4 (iter s_X9_plan_l237 (((1 : Int32) * a3).toNatClampNeg - 0) 0 σm) = s_X9_plan_c261r (iterR (s_X9_plan_l261 a1 a2 a3 a4) (1 + P ^ (1 * A)) 0 ((1 : Int32), (-1 : Int32), y0)) := by
    rw [hS, Nat.sub_zero, hy0]
    unfold s_X9_plan_c237
    try dsimp only
    rw [hS, hP]
  have oky : okT y0 P (1 * A) := okT_zero zz.2 P0
  have vl0 : vl y0 P (1 * A) = 0 := by
    have := vl_tail (τ := y0) (P := P) (n := 0) (m := 1 * A) (fun i _ h2 => zz.2 i (by omega))
    rw [Nat.zero_add] at this
    rw [this]
    show 0 * P ^ (1 * A) = 0
    rw [Nat.zero_mul]
  obtain ⟨vx2, vm2, x2, y2, q1, q2, q3, q4⟩ := ch_loop (σm := σm) (xR := xR) (S := 1 * A) (P := P) (b1 := nI P) (a1 := a1) (a2 := a2) (a3 := a3) (a4 := a4) hS S4 rfl P6 P0 eP (fun x p q => hslot x (p.trans R607) (q.trans R608)) (fun y => Sm (fun d => hT σm (UY y) n d i1 + (if 1 = 2 then hT σm (UY y) n d i2 else 0)) (A * D)) (fun y => by
    have b := sm_bd (f := fun d => hT σm (UY y) n d i1 + (if 1 = 2 then hT σm (UY y) n d i2 else 0)) (B := 108012) (N := 40) (by decide) AD (fun d _ => by
      have t1 := ht_b KCm c7 hw (UY y) n20 (by rw [hP]; exact P6) d i1
      have t2 := ht_b KCm c7 hw (UY y) n20 (by rw [hP]; exact P6) d i2
      show 0 ≤ (hT σm (UY y) n d i1 + (if 1 = 2 then hT σm (UY y) n d i2 else 0)).toInt ∧ _ ≤ ((108012 : Nat) : Int)
      split
      · rw [add_ti (by omega) (by omega)]
        omega
      · rw [Int32.add_zero]
        omega)
    exact b.1) hx st stok (fun y fy es k hk => by
    have ks : k / 1 < A := Nat.div_lt_of_lt_mul hk
    rw [es k hk, hst]
    show ¬ s_X9_mayTake y (nI k / (1 : Int32)) (nI (ps (k / 1))) a4 = 0
    have ek : nI k / (1 : Int32) = nI (k / 1) := by
      rw [eN, ← Int32.toInt_inj, div_ti (by rw [nI_toInt (by omega)]; omega) (by rw [nI_toInt (by decide)]; decide), nI_toInt (by omega), nI_toInt (by decide), nI_toInt (by omega)]
      rfl
    rw [ek]
    unfold s_X9_mayTake
    rw [fy 1 (by decide) (by decide) (by decide) (by decide) (by decide) (by decide), fy 16 (by decide) (by decide) (by decide) (by decide) (by decide) (by decide)]
    exact (hps _ ks).2) (P ^ (1 * A)) 0 (-9) (-1) 1 x0 y0 (Nat.zero_add _) ⟨Or.inl ⟨rfl, rfl⟩, fun f p _ _ => l2 f p, fun f _ _ _ _ p _ => zz.1 f p, fun q => absurd q (by decide)⟩ (fun _ => ⟨rfl, vl0, fun i hi => by rw [l3 i hi, zz.2 i hi], oky⟩) (fun q => by omega) (fun q => absurd q (Nat.not_lt_zero _))
  refine ⟨vx2, vm2, x2, y2, eC.trans q1, eM.trans q2, ?_, q4, ?_, ?_, fun q hq => q3.2.2.2 q4 q (by rw [hS] at hq; exact hq), ?_, q3.2.2.1 0 (by decide) (by decide) (by decide) (by decide) (by decide) (by decide)⟩
  · rcases q3.1 with ⟨-, b⟩ | ⟨a, -⟩
    · rw [b, show (-1 : Int32).toInt = -1 by decide] at q4
      omega
    · exact a
  · rw [q3.2.1 607 (by decide) (by decide) (by decide), R607, s607, ← eN]
  · rw [q3.2.1 608 (by decide) (by decide) (by decide), R608, s608, ← eA]
  · rw [q3.2.1 810 (by decide) (by decide) (by decide), hRf 810 (by decide) (by decide) (by decide), fb 810 (by decide)]
theorem mk_plan_1 {k : Nat} {σx σm : St} (hJ : IR σm) (hJR : JR σm) (hB : RelB k σx σm) (hC : RC σx σm) {a1 a2 a3 a4 : Int32} (g1 : ¬ s_X9_isIn a1 (σm 6 0) = 0) (g2 : ¬ a1 = a2) (g3 : ¬ a3 < 1) (g4 : ¬ a4 < 1) (g5 : a4 ≤ 10) (g6 : σm 1 0 + a3 * a4 ≤ 720) (g7 : ∀ s : Nat, s < a3.toNatClampNeg → opn σm a4 s) (g8 : ¬ a2 = -1 ∧ ¬ s_X9_isIn a2 (σm 6 0) = 0) (g9 : ¬ (2 : Int32) < a3) : ∃ (vx vm : Int32) (x y : St), s_X6_choose (s_X8_reckonTurns (s_X6_begin σx a1 a2 a3 a4)) ((s_X8_reckonTurns (s_X6_begin σx a1 a2 a3 a4)) 811 0) = (vx, x) ∧ s_X9_plan_c237_1 σm a1 a2 a3 a4 (iter s_X9_plan_l237_1 (((2 : Int32) * a3).toNatClampNeg - 0) 0 σm) = (vm, put (put y 49 0 a3) 50 0 (2 : Int32)) ∧ vx = vm ∧ 0 ≤ vm.toInt ∧ x 607 0 = (2 : Int32) ∧ x 608 0 = a3 ∧ (∀ q, q < ((2 : Int32) * a3).toNatClampNeg → x 603 q = y 48 q) ∧ x 810 = σx 810 ∧ y 0 = σm 0 := by
  obtain ⟨E, G, HP, -, -, K, -⟩ := hB
  obtain ⟨c1, c2, c3, c4, c5, c6, c7⟩ := hC
  obtain ⟨e1, e2, e3, e4, e5, e6, e7, e8, e9, e10, e11, e12, e13, e14, e15, e16, e17, e18⟩ := id E
  obtain ⟨g1', g2', g3', g4', g5', g6', g7', g8', g9', g10'⟩ := id G
  have z : (0 : Int32).toInt = 0 := by decide
  have o1 : (1 : Int32).toInt = 1 := by decide
  have t10 : (10 : Int32).toInt = 10 := by decide
  have tM : (2 : Int32).toInt = 2 := by decide
  have t7 : (720 : Int32).toInt = 720 := by decide
  rw [Int32.lt_iff_toInt_lt, o1] at g3 g4
  rw [Int32.le_iff_toInt_le, t10] at g5
  rw [Int32.lt_iff_toInt_lt, tM] at g9
  -- numbers
  obtain ⟨A, hA⟩ : ∃ A, a3.toNatClampNeg = A := ⟨_, rfl⟩
  obtain ⟨D, hD⟩ : ∃ D, a4.toNatClampNeg = D := ⟨_, rfl⟩
  have eA : a3 = nI A := by rw [← hA]; exact nI_v (by omega)
  have eD : a4 = nI D := by rw [← hD]; exact nI_v (by omega)
  have A1 : 0 < A := by rw [← hA, tn_toInt]; omega
  have AM : A ≤ 2 := by rw [← hA, tn_toInt]; omega
  have A4 : A ≤ 4 := by omega
  have D1 : 0 < D := by rw [← hD, tn_toInt]; omega
  have D10 : D ≤ 10 := by rw [← hD, tn_toInt]; omega
  have AD : A * D ≤ 40 := Nat.mul_le_mul A4 D10
  obtain ⟨n, hn⟩ : ∃ n, (σm 6 0).toNatClampNeg = n := ⟨_, rfl⟩
  have n20 : n ≤ 20 := by rw [← hn]; exact cnt_le (ir_6 hJ)
  obtain ⟨P, hP⟩ : ∃ P, (σm 2 0).toNatClampNeg = P := ⟨_, rfl⟩
  have P6 : P ≤ 6 := by rw [← hP]; exact cnt_le (ir_2 hJ)
  have eP : σm 2 0 = nI P := by rw [← hP]; exact nI_v (ir_2 hJ).1
  have d0 := (ir_1 hJ).1
  have d7 := (ir_1 hJ).2
  have hd : (σm 1 0).toNatClampNeg + A * D ≤ 720 := by
    have e : a3 * a4 = nI (A * D) := by rw [eA, eD]; exact nI_mu (by omega) (by omega) (by omega)
    rw [e, nI_v d0, nI_ad (by rw [tn_toInt]; omega), Int32.le_iff_toInt_le, nI_toInt (by rw [tn_toInt]; omega), t7] at g6
    omega
  have P0 : 0 < P := by
    obtain ⟨p, hp, -⟩ := g7 0 (by rw [hA]; exact A1)
    rw [hP] at hp
    omega
  obtain ⟨i1, hi1, ei1⟩ := vp_in_of (in_vp.mpr g1) (tn_lt _)
  rw [hn] at hi1
  obtain ⟨i2, hj2, ei2⟩ := vp_in_of (in_vp.mpr g8.2) (tn_lt _)
  rw [hn] at hj2
  have hi2 : 2 = 2 → i2 < n ∧ i1 ≠ i2 := fun _ => ⟨hj2, fun q => g2 (by rw [ei1, ei2, q])⟩
  have ha2 : (2 = 2 → a2 = nI i2) ∧ (2 = 1 → a2 = -1) := ⟨fun _ => ei2, fun q => absurd q (by decide)⟩
  have eN : (2 : Int32) = nI 2 := by decide
  have hS : ((2 : Int32) * a3).toNatClampNeg = 2 * A := by
    rw [eN, eA, nI_mu (by omega) (by omega) (by omega), nI_clamp (by omega)]
  have S4 : 2 * A ≤ 4 := by omega
  have w12 : 2 = 1 ∨ 2 = 2 := by decide
  have h9 : ∀ h : Nat, (0 ≤ (σm 36 h).toInt ∧ (σm 36 h).toInt < 3) ∧ (0 ≤ (σm 37 h).toInt ∧ (σm 37 h).toInt ≤ 100) := fun h => ⟨ir_36 hJ h, ir_37 hJ h⟩
  have hw : ∀ h, 0 ≤ (wM σm h).toInt ∧ (wM σm h).toInt ≤ 4500 := ph_b h9
  have KCm := kc_of hJ
  -- the class's states
  obtain ⟨σb, hσb⟩ : ∃ s, s_X6_begin σx a1 a2 a3 a4 = s := ⟨_, rfl⟩
  have eb : σb = put (put (put (put (put σx 605 0 a1) 606 0 a2) 607 0 (2 : Int32)) 608 0 a3) 609 0 a4 := by
    rw [← hσb]
    unfold s_X6_begin
    rw [if_neg g8.1]
  have fb : ∀ f : Nat, (f < 605 ∨ 610 ≤ f) → σb f = σx f := fun f q => by
    rw [eb]
    exact (put_fr (by omega)).trans ((put_fr (by omega)).trans ((put_fr (by omega)).trans ((put_fr (by omega)).trans (put_fr (by omega)))))
  have b605 : σb 605 0 = nI i1 := by rw [eb, ← ei1]; rfl
  have b606 : σb 606 0 = a2 := by rw [eb]; rfl
  have b607 : σb 607 0 = nI 2 := by rw [eb, ← eN]; rfl
  have b608 : σb 608 0 = nI A := by rw [eb, ← eA]; rfl
  have b609 : σb 609 0 = nI D := by rw [eb, ← eD]; rfl
  obtain ⟨r1, r2⟩ := rk_601 (σb := σb) (A := A) (by rw [b608, nI_clamp (by omega)]) A4
  obtain ⟨σ1, hσ1⟩ : ∃ s, iter s_X8_reckonTurns_l2 A 0 σb = s := ⟨_, rfl⟩
  rw [hσ1] at r1 r2
  have f1 : ∀ f : Nat, (f < 601 ∨ 610 ≤ f) → σ1 f = σx f := fun f q => (r1 f (by omega)).trans (fb f (by omega))
  obtain ⟨xR, hxR⟩ : ∃ s, s_X8_reckonTurns_c2 σ1 = s := ⟨_, rfl⟩
  have eR : s_X8_reckonTurns σb = xR := by
    unfold s_X8_reckonTurns
    rw [b608, nI_clamp (by omega), Nat.sub_zero, hσ1, hxR]
  have hRf : ∀ f : Nat, (f < 300 ∨ 307 ≤ f) → (f < 620 ∨ 626 ≤ f) → f ≠ 601 → xR f = σb f := fun f p q r => by
    rw [← eR]
    exact fr_s_X8_reckonTurns σb (by omega) (by omega) (by omega) (by omega) (by omega) (by omega) (by omega) r (by omega) (by omega) (by omega) (by omega) (by omega) (by omega)
  have E1 : RE σ1 σm := by
    unfold RE
    rw [f1 811 (by decide), f1 812 (by decide), f1 813 (by decide), f1 814 (by decide), f1 815 (by decide), f1 816 (by decide), f1 803 (by decide), f1 0 (by decide), f1 1 (by decide), f1 2 (by decide), f1 3 (by decide), f1 5 (by decide), f1 6 (by decide), f1 8 (by decide), f1 200 (by decide), f1 201 (by decide), f1 202 (by decide), f1 203 (by decide)]
    exact E
  have s605 : σ1 605 0 = nI i1 := by rw [r1 605 (by decide), b605]
  have s606 : σ1 606 0 = a2 := by rw [r1 606 (by decide), b606]
  have s607 : σ1 607 0 = nI 2 := by rw [r1 607 (by decide), b607]
  have s608 : σ1 608 0 = nI A := by rw [r1 608 (by decide), b608]
  have s609 : σ1 609 0 = nI D := by rw [r1 609 (by decide), b609]
  have HV := fun (τ : St) (p : Nat) (v : Int32) (U : Nat → Nat → Int32) (p31 : p < 2 ^ 31) (hτ : ∀ f : Nat, (f < 300 ∨ 307 ≤ f) → (f < 620 ∨ 626 ≤ f) → τ f = σ1 f) (hU : ∀ s k h, s < A → k < D → h < n → (U (s * D + k) h = nI p ↔ thr σ1 2 i1 i2 p v s h)) => hv_eq (σ1 := σ1) (σm := σm) (w := 2) (i1 := i1) (i2 := i2) (p := p) (n := n) (A := A) (D := D) (v := v) (a2 := a2) E1 ((f1 400 (by decide)).trans g3') ((f1 402 (by decide)).trans g5') ((f1 700 (by decide)).trans g10') ((f1 403 (by decide)).trans c1) (fun d dd => by rw [f1 701 (by decide)]; exact c4 d dd) KCm c7 h9 w12 hn n20 hi1 hi2 s605 s606 s607 s608 s609 ha2 p31 A4 D1 D10 d0 hd hτ U hU
  have hslot : ∀ x : St, x 607 = σ1 607 → x 608 = σ1 608 → s_X6_slots x = nI (2 * A) := fun x p q => slots_eq (by rw [p]; exact s607) (by rw [q]; exact s608) S4 (by decide) A4
  have TAB := tab_eq (σ1 := σ1) (P := P) (S := 2 * A) (V := fun p v => Sm (hv1 σm (cU σm 2 i1 i2 D p (nI v)) n 2 i1 i2 p) (A * D)) P6 S4 (by rw [f1 811 (by decide), e1, hP]) hslot (fun τ p v hτ hp _ _ => HV τ p (nI v) (cU σm 2 i1 i2 D p (nI v)) (by omega) hτ (fun s k h _ hk _ => cu_t ((f1 203 (by decide)).trans e18) (by omega) (nI v) hk))
  rw [hxR] at TAB
  obtain ⟨hR1, TAB⟩ := TAB
  have R607 : xR 607 = σ1 607 := hR1 607 (by decide) (by decide)
  have R608 : xR 608 = σ1 608 := hR1 608 (by decide) (by decide)
  -- the value of a trial
  obtain ⟨UY, hUY⟩ : ∃ UY : St → Nat → Nat → Int32, UY = fun y d => uT σm 2 i1 i2 (y 47) (d / D) := ⟨_, rfl⟩
  have hx : ∀ x y : St, (∀ f : Nat, f ≠ 602 → f ≠ 603 → f ≠ 604 → x f = xR f) → (∀ f : Nat, f ≠ 43 → f ≠ 44 → f ≠ 45 → f ≠ 46 → f ≠ 47 → f ≠ 48 → y f = σm f) → JD P (2 * A) x y → (¬ s_X6_isOpen x = 0 ↔ ∀ k, k < 2 * A → ¬ s_X9_mayTake y (nI k / (2 : Int32)) (y 47 k) a4 = 0) ∧ (s_X6_hungerOfTrial x).1 = Sm (fun d => hT σm (UY y) n d i1 + (if 2 = 2 then hT σm (UY y) n d i2 else 0)) (A * D) ∧ (s_X9_tries y a1 a2 (2 : Int32) a3 a4).1 = Sm (fun d => hT σm (UY y) n d i1 + (if 2 = 2 then hT σm (UY y) n d i2 else 0)) (A * D) := by
    intro x y fx fy D0
    obtain ⟨dg, ok⟩ := D0
    have x607 : x 607 0 = nI 2 := by rw [fx 607 (by decide) (by decide) (by decide), R607]; exact s607
    have x608 : x 608 0 = nI A := by rw [fx 608 (by decide) (by decide) (by decide), R608]; exact s608
    have dig : ∀ k, k < 2 * A → ∃ q, q < P ∧ y 47 k = nI q ∧ x 602 k = nI q := fun k hk => ⟨(y 47 k).toNatClampNeg, (ok k hk).2, nI_v (ok k hk).1, by rw [dg k hk]; exact nI_v (ok k hk).1⟩
    have hT6 : ∀ k, k < 2 * A → 0 ≤ (x 602 k).toInt ∧ (x 602 k).toNatClampNeg < 6 := fun k hk => by
      rw [dg k hk]
      have := (ok k hk).2
      exact ⟨(ok k hk).1, by omega⟩
    have mtf : ∀ a b, s_X9_mayTake y a b a4 = s_X9_mayTake σm a b a4 := fun a b => by
      unfold s_X9_mayTake
      rw [fy 1 (by decide) (by decide) (by decide) (by decide) (by decide) (by decide), fy 16 (by decide) (by decide) (by decide) (by decide) (by decide) (by decide)]
    have bitm : ∀ s q, s < A → q < P → (bt (x 601 s) q = true ↔ ¬ s_X9_mayTake σm (nI s) (nI q) a4 = 0) := fun s q hs hq => by
      have e601 : x 601 s = s_X8_openPieces σb (σb 816 0 + 1 + nI s * σb 609 0) := by
        rw [fx 601 (by decide) (by decide) (by decide), hR1 601 (by decide) (by decide)]
        exact r2 s hs
      have nb : (σb 811 0).toNatClampNeg = P := by rw [fb 811 (by decide), e1, hP]
      rw [e601, op_bit σb _ (by rw [nb]; exact P6) (by omega), nb, decide_eq_true_iff, b609, ← eD]
      have m := mt_eq (σx := σb) (σm := σm) ((fb 816 (by decide)).trans e6) ((fb 404 (by decide)).trans g6') (p := q) (by omega) (nI s) a4
      exact ⟨fun w => m.mp w.2, fun w => ⟨hq, m.mpr w⟩⟩
    refine ⟨?_, ?_, ?_⟩
    · rw [io_eq x607 x608 (by decide) A4 hT6]
      constructor
      · intro h k hk
        obtain ⟨q, hq, eq1, eq2⟩ := dig k hk
        have ks : k / 2 < A := Nat.div_lt_of_lt_mul hk
        have b := h (k / 2) ks (k % 2) (Nat.mod_lt _ (by decide))
        rw [dm (by decide), eq2, nI_clamp (by omega)] at b
        rw [mtf, eq1]
        have ek : nI k / (2 : Int32) = nI (k / 2) := by
          rw [eN, ← Int32.toInt_inj, div_ti (by rw [nI_toInt (by omega)]; omega) (by rw [nI_toInt (by decide)]; decide), nI_toInt (by omega), nI_toInt (by decide), nI_toInt (by omega)]
          rfl
        rw [ek]
        exact (bitm _ q ks hq).mp b
      · intro h s hs k hk
        have lim : s * 2 + k < 2 * A := by
          have : (s + 1) * 2 ≤ A * 2 := Nat.mul_le_mul_right _ hs
          rw [Nat.succ_mul, Nat.mul_comm A] at this
          omega
        obtain ⟨q, hq, eq1, eq2⟩ := dig _ lim
        have b := h _ lim
        rw [mtf, eq1] at b
        have ek : nI (s * 2 + k) / (2 : Int32) = nI s := by
          rw [eN, ← Int32.toInt_inj, div_ti (by rw [nI_toInt (by omega)]; omega) (by rw [nI_toInt (by decide)]; decide), nI_toInt (by omega), nI_toInt (by decide), nI_toInt (by omega)]
          omega
        rw [ek] at b
        rw [eq2, nI_clamp (by omega)]
        exact (bitm s q hs hq).mpr b
    · have xsl : s_X6_slots x = nI (2 * A) := slots_eq x607 x608 S4 (by decide) A4
      rw [ht_eq (τ := x) S4 xsl (fun t p q => slots_eq (by rw [p]; exact x607) (by rw [q]; exact x608) S4 (by decide) A4) (fun k hk => (hT6 k hk).2) (F := fun p => if p < P then Sm (hv1 σm (UY y) n 2 i1 i2 p) (A * D) else 0) (fun p m hp hm hb => ?_), sm_cut P6, ← hP, sum_pd]
      have S16 : 2 ^ (2 * A) ≤ 16 := by
        have : 2 ^ (2 * A) ≤ 2 ^ 4 := Nat.pow_le_pow_right (by decide) S4
        omega
      have com : ∀ s k h, s < A → k < D → h < n → (UY y (s * D + k) h = nI p ↔ thr σ1 2 i1 i2 p (nI m) s h) := fun s k h hs hk hh => by
        rw [hUY]
        show uT σm 2 i1 i2 (y 47) ((s * D + k) / D) h = nI p ↔ _
        rw [dv hk]
        unfold uT thr
        rw [f1 203 (by decide), e18]
        have sl : ∀ j, j < 2 → s * 2 + j < 2 * A := fun j hj => by
          have : (s + 1) * 2 ≤ A * 2 := Nat.mul_le_mul_right _ hs
          rw [Nat.succ_mul, Nat.mul_comm A] at this
          omega
        have bit : ∀ j, j < 2 → (y 47 (2 * s + j) = nI p ↔ bt (nI m) (s * 2 + j) = true) := fun j hj => by
          have l := sl j hj
          rw [bt_nI m _ (by omega) (by omega), hb _ l, Nat.mul_comm 2 s]
          obtain ⟨q, hq, eq1, eq2⟩ := dig _ l
          rw [eq1, eq2, nI_clamp (by omega)]
          exact ⟨fun e => nI_inj (by omega) (by omega) e, fun e => by rw [e]⟩
        by_cases d1 : h = i1
        · rw [if_pos d1, if_pos d1]
          exact bit 0 (by decide)
        · rw [if_neg d1, if_neg d1]
          by_cases d2 : 2 = 2 ∧ h = i2
          · rw [if_pos d2, if_pos d2]
            exact bit 1 (by decide)
          · rw [if_neg d2, if_neg d2]
      refine ⟨fun m0 => ?_, fun m0 => ?_⟩
      · show (if p < P then Sm (hv1 σm (UY y) n 2 i1 i2 p) (A * D) else 0) = 0
        by_cases pP : p < P
        · rw [if_pos pP]
          refine sm_0 (fun d dd => ?_)
          have hs : d / D < A := Nat.div_lt_of_lt_mul (by rw [Nat.mul_comm]; exact dd)
          have ed : d = d / D * D + d % D := (dm D1).symm
          have nb : ∀ j, j < 2 → ¬ bt (nI m) (d / D * 2 + j) = true := fun j hj q => by
            have : d / D * 2 + j < 2 * A := by
              have : (d / D + 1) * 2 ≤ A * 2 := Nat.mul_le_mul_right _ hs
              rw [Nat.succ_mul, Nat.mul_comm A] at this
              omega
            rw [bt_nI m _ (by omega) (by omega), m0, Nat.zero_testBit] at q
            cases q
          have u1 : ¬ UY y d i1 = nI p := fun q => by
            rw [ed] at q
            have := (com _ _ i1 hs (Nat.mod_lt _ D1) hi1).mp q
            unfold thr at this
            rw [if_pos rfl] at this
            exact nb 0 (by decide) this
          unfold hv1
          rw [if_neg u1, Int32.zero_add]
          have u2 : ¬ UY y d i2 = nI p := fun q => by
            rw [ed] at q
            have := (com _ _ i2 hs (Nat.mod_lt _ D1) hj2).mp q
            unfold thr at this
            rw [if_neg (fun q => (hi2 rfl).2 q.symm), if_pos ⟨rfl, rfl⟩] at this
            exact nb 1 (by decide) this
          rw [if_pos rfl, if_neg u2]
        · rw [if_neg pP]
      · have pP : p < P := by
          refine Decidable.byContradiction (fun q => ?_)
          have : m = 0 := by
            refine Nat.eq_of_testBit_eq (fun j => ?_)
            rw [Nat.zero_testBit]
            by_cases hj : j < 2 * A
            · cases e : m.testBit j with
              | false => rfl
              | true =>
                have := (hb j hj).mp e
                obtain ⟨q2, hq2, -, eq2⟩ := dig j hj
                rw [eq2, nI_clamp (by omega)] at this
                omega
            · exact Nat.testBit_lt_two_pow (Nat.lt_of_lt_of_le hm (Nat.pow_le_pow_right (by decide) (by omega)))
          omega
        show x (620 + p) m = if p < P then Sm (hv1 σm (UY y) n 2 i1 i2 p) (A * D) else 0
        rw [if_pos pP, fx (620 + p) (by omega) (by omega) (by omega), TAB p m pP m0 hm]
        rw [← HV σ1 p (nI m) (cU σm 2 i1 i2 D p (nI m)) (by omega) (fun _ _ _ => rfl) (fun s k h _ hk _ => cu_t ((f1 203 (by decide)).trans e18) (by omega) (nI m) hk)]
        exact HV σ1 p (nI m) (UY y) (by omega) (fun _ _ _ => rfl) com
    · rw [ei1, eN, eA, eD, hUY]
      exact tries_eq (σ := σm) (τ := y) hn n20 hw KCm c7 K hJR.2.2.2 fy w12 hi1 hi2 A4 D1 D10 d0 hd a2 ha2.1
  -- a trial that is open
  obtain ⟨ps, hps⟩ : ∃ ps : Nat → Nat, ∀ s, s < A → ps s < P ∧ ¬ s_X9_mayTake σm (nI s) (nI (ps s)) a4 = 0 := by
    have g : ∀ s, s < A → ∃ p, p < P ∧ ¬ s_X9_mayTake σm (nI s) (nI p) a4 = 0 := fun s hs => by
      obtain ⟨p, hp, q⟩ := g7 s (by rw [hA]; exact hs)
      exact ⟨p, by rw [← hP]; exact hp, q⟩
    exact ⟨fun s => if h : s < A then Classical.choose (g s h) else 0, fun s hs => by
      show (if h : s < A then Classical.choose (g s h) else 0) < P ∧ ¬ s_X9_mayTake σm (nI s) (nI (if h : s < A then Classical.choose (g s h) else 0)) a4 = 0
      rw [dif_pos hs]
      exact Classical.choose_spec (g s hs)⟩
  obtain ⟨st, hst⟩ : ∃ st : St, st = fun _ k => nI (ps (k / 2)) := ⟨_, rfl⟩
  have stok : okT st P (2 * A) := fun k hk => by
    rw [hst]
    have ks : k / 2 < A := Nat.div_lt_of_lt_mul hk
    have := (hps _ ks).1
    show 0 ≤ (nI (ps (k / 2))).toInt ∧ (nI (ps (k / 2))).toNatClampNeg < P
    rw [nI_toInt (by omega), nI_clamp (by omega)]
    exact ⟨by omega, this⟩
  -- the beginning of both loops
  have sR : s_X6_slots xR = nI (2 * A) := hslot xR R607 R608
  have x811 : xR 811 0 = nI P := by rw [hRf 811 (by decide) (by decide) (by decide), fb 811 (by decide), e1, eP]
  obtain ⟨l1, l2, l3⟩ := l8_e xR (xR 811 0) x811 P6 (2 * A) S4
  obtain ⟨px, hpx⟩ : ∃ p, iter (s_X6_choose_l8 (xR 811 0)) (2 * A) 0 ((1 : Int32), xR) = p := ⟨_, rfl⟩
  rw [hpx] at l1 l2 l3
  obtain ⟨tv, x0⟩ := px
  have l1 : tv = nI (P ^ (2 * A)) := l1
  have l2 : ∀ f : Nat, f ≠ 602 → x0 f = xR f := l2
  have l3 : ∀ k, k < 2 * A → x0 602 k = 0 := l3
  have PS : P ^ (2 * A) ≤ 1296 := by
    have : P ^ (2 * A) ≤ 6 ^ (2 * A) := Nat.pow_le_pow_left P6 _
    have : 6 ^ (2 * A) ≤ 6 ^ 4 := Nat.pow_le_pow_right (by decide) S4
    omega
  have PS0 : 0 < P ^ (2 * A) := Nat.pow_pos P0
  have c38 : ∀ q : Int32 × St, s_X6_choose_c38 q = q := fun q => by
    obtain ⟨a, b⟩ := q
    rfl
  have eC : s_X6_choose (s_X8_reckonTurns (s_X6_begin σx a1 a2 a3 a4)) ((s_X8_reckonTurns (s_X6_begin σx a1 a2 a3 a4)) 811 0) = iter (s_X6_choose_l38 (nI P)) (P ^ (2 * A)) 0 ((-9 : Int32), x0) := by
    rw [hσb, eR]
    unfold s_X6_choose
    rw [sR, nI_clamp (by omega), Nat.sub_zero, hpx]
    unfold s_X6_choose_c8
    try dsimp only
    rw [c38, l1, nI_clamp (by omega), Nat.sub_zero, x811]
  have zz := it_ind (L := s_X9_plan_l237_1) (P := fun k (t : St) => (∀ f : Nat, f ≠ 47 → t f = σm f) ∧ ∀ j, j < k → t 47 j = 0) (s := σm) ⟨fun _ _ => rfl, fun j h => absurd h (Nat.not_lt_zero j)⟩ (2 * A) (fun k t _ ih => by
    unfold s_X9_plan_l237_1
    try dsimp only
    refine ⟨fun f q => (put_fr q).trans (ih.1 f q), fun j hj => ?_⟩
    show upd (t 47) k 0 j = 0
    by_cases q : j = k
    · rw [q, pk_us]
    · rw [pk_un q]
      exact ih.2 j (by omega))
  obtain ⟨y0, hy0⟩ : ∃ y, iter s_X9_plan_l237_1 (2 * A) 0 σm = y := ⟨_, rfl⟩
  rw [hy0] at zz
  have eM : s_X9_plan_c237_1 σm a1 a2 a3 a4 (iter s_X9_plan_l237_1 (((2 : Int32) * a3).toNatClampNeg - 0) 0 σm) = s_X9_plan_c261r_1 (iterR (s_X9_plan_l261_1 a1 a2 a3 a4) (1 + P ^ (2 * A)) 0 ((1 : Int32), (-1 : Int32), y0)) := by
    rw [hS, Nat.sub_zero, hy0]
    unfold s_X9_plan_c237_1
    try dsimp only
    rw [hS, hP]
  have oky : okT y0 P (2 * A) := okT_zero zz.2 P0
  have vl0 : vl y0 P (2 * A) = 0 := by
    have := vl_tail (τ := y0) (P := P) (n := 0) (m := 2 * A) (fun i _ h2 => zz.2 i (by omega))
    rw [Nat.zero_add] at this
    rw [this]
    show 0 * P ^ (2 * A) = 0
    rw [Nat.zero_mul]
  obtain ⟨vx2, vm2, x2, y2, q1, q2, q3, q4⟩ := ch_loop_1 (σm := σm) (xR := xR) (S := 2 * A) (P := P) (b1 := nI P) (a1 := a1) (a2 := a2) (a3 := a3) (a4 := a4) hS S4 rfl P6 P0 eP (fun x p q => hslot x (p.trans R607) (q.trans R608)) (fun y => Sm (fun d => hT σm (UY y) n d i1 + (if 2 = 2 then hT σm (UY y) n d i2 else 0)) (A * D)) (fun y => by
    have b := sm_bd (f := fun d => hT σm (UY y) n d i1 + (if 2 = 2 then hT σm (UY y) n d i2 else 0)) (B := 108012) (N := 40) (by decide) AD (fun d _ => by
      have t1 := ht_b KCm c7 hw (UY y) n20 (by rw [hP]; exact P6) d i1
      have t2 := ht_b KCm c7 hw (UY y) n20 (by rw [hP]; exact P6) d i2
      show 0 ≤ (hT σm (UY y) n d i1 + (if 2 = 2 then hT σm (UY y) n d i2 else 0)).toInt ∧ _ ≤ ((108012 : Nat) : Int)
      split
      · rw [add_ti (by omega) (by omega)]
        omega
      · rw [Int32.add_zero]
        omega)
    exact b.1) hx st stok (fun y fy es k hk => by
    have ks : k / 2 < A := Nat.div_lt_of_lt_mul hk
    rw [es k hk, hst]
    show ¬ s_X9_mayTake y (nI k / (2 : Int32)) (nI (ps (k / 2))) a4 = 0
    have ek : nI k / (2 : Int32) = nI (k / 2) := by
      rw [eN, ← Int32.toInt_inj, div_ti (by rw [nI_toInt (by omega)]; omega) (by rw [nI_toInt (by decide)]; decide), nI_toInt (by omega), nI_toInt (by decide), nI_toInt (by omega)]
      rfl
    rw [ek]
    unfold s_X9_mayTake
    rw [fy 1 (by decide) (by decide) (by decide) (by decide) (by decide) (by decide), fy 16 (by decide) (by decide) (by decide) (by decide) (by decide) (by decide)]
    exact (hps _ ks).2) (P ^ (2 * A)) 0 (-9) (-1) 1 x0 y0 (Nat.zero_add _) ⟨Or.inl ⟨rfl, rfl⟩, fun f p _ _ => l2 f p, fun f _ _ _ _ p _ => zz.1 f p, fun q => absurd q (by decide)⟩ (fun _ => ⟨rfl, vl0, fun i hi => by rw [l3 i hi, zz.2 i hi], oky⟩) (fun q => by omega) (fun q => absurd q (Nat.not_lt_zero _))
  refine ⟨vx2, vm2, x2, y2, eC.trans q1, eM.trans q2, ?_, q4, ?_, ?_, fun q hq => q3.2.2.2 q4 q (by rw [hS] at hq; exact hq), ?_, q3.2.2.1 0 (by decide) (by decide) (by decide) (by decide) (by decide) (by decide)⟩
  · rcases q3.1 with ⟨-, b⟩ | ⟨a, -⟩
    · rw [b, show (-1 : Int32).toInt = -1 by decide] at q4
      omega
    · exact a
  · rw [q3.2.1 607 (by decide) (by decide) (by decide), R607, s607, ← eN]
  · rw [q3.2.1 608 (by decide) (by decide) (by decide), R608, s608, ← eA]
  · rw [q3.2.1 810 (by decide) (by decide) (by decide), hRf 810 (by decide) (by decide) (by decide), fb 810 (by decide)]
