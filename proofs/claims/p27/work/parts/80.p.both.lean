theorem sm_plus (f g : Nat → Int32) : ∀ n : Nat, Sm f n + Sm g n = Sm (fun h => f h + g h) n := by
  intro n
  induction n with
  | zero => show (0 : Int32) + 0 = 0; decide
  | succ n ih =>
    show (Sm f n + f n) + (Sm g n + g n) = Sm (fun h => f h + g h) n + (f n + g n)
    rw [← ih, Int32.add_assoc, Int32.add_assoc, ← Int32.add_assoc (f n), Int32.add_comm (f n) (Sm g n), Int32.add_assoc (Sm g n)]
theorem sm_swap (F : Nat → Nat → Int32) (n : Nat) : ∀ m : Nat, Sm (fun p => Sm (F p) n) m = Sm (fun h => Sm (fun p => F p h) m) n := by
  intro m
  induction m with
  | zero => exact (sm_0 (fun _ _ => rfl)).symm
  | succ m ih =>
    show Sm (fun p => Sm (F p) n) m + Sm (F m) n = _
    rw [ih, sm_plus]
    rfl
theorem dall_x {u u2 w w2 : Nat → Int32} {c : Int32} {n : Nat} (hu : ∀ h, h < n → u h = u2 h) (hw : ∀ h, h < n → w h = w2 h) : dAll u w c n = dAll u2 w2 c n := sm_ext (fun k hk => by rw [hu k hk, hw k hk])
theorem dhun_x {u u2 w w2 : Nat → Int32} {c : Int32} {n : Nat} (hu : ∀ h, h < n → u h = u2 h) (hw : ∀ h, h < n → w h = w2 h) (water gr : Int32) {h : Nat} (hh : h < n) : dHun u w c n water gr h = dHun u2 w2 c n water gr h := by
  have eL : ∀ lack all, dLeft u w c n lack all = dLeft u2 w2 c n lack all := fun lack all => by
    unfold dLeft
    rw [sm_ext (f := fun h => if u h = c then dQ lack all (w h) else 0) (g := fun h => if u2 h = c then dQ lack all (w2 h) else 0) (fun k hk => by rw [hu k hk, hw k hk])]
  have eA : ∀ lack all, dAhead u w c n lack all h = dAhead u2 w2 c n lack all h := fun lack all => by
    unfold dAhead
    rw [hw h hh]
    exact sm_ext (fun k hk => by rw [hu k hk, hw k hk])
  unfold dHun dShare
  rw [eL, eA, dall_x hu hw, hw h hh]
/-! where the herds are -/
theorem pl_eq (σ : St) : ∀ m : Nat, m ≤ 20 → ∀ h : Nat, iter s_X9_places_l2 m 0 σ 45 h = if h < m then (if h < (σ 6 0).toNatClampNeg ∧ ¬ s_X9_isOut σ (nI h) = 0 then σ 38 h else -1) else σ 45 h := by
  intro m
  induction m with
  | zero => intro _ h; rw [if_neg (Nat.not_lt_zero h)]; rfl
  | succ m ih =>
    intro hm h
    have ih := ih (by omega)
    have fr : ∀ f : Nat, f ≠ 45 → iter s_X9_places_l2 m 0 σ f = σ f := fun f q => iter_fr (P := fun s : St => s f) (L := s_X9_places_l2) (fun k s => fr_s_X9_places_l2 k s q) m 0 σ
    rw [iter_snoc, Nat.zero_add]
    generalize iter s_X9_places_l2 m 0 σ = t at ih fr ⊢
    have eo : s_X9_isOut t (nI m) = s_X9_isOut σ (nI m) := by
      unfold s_X9_isOut
      rw [fr 41 (by decide), fr 38 (by decide)]
    have le : (σ 6 0 ≤ nI m) ↔ (σ 6 0).toNatClampNeg ≤ m := by
      rw [Int32.le_iff_toInt_le, nI_toInt (by omega), tn_toInt]
      omega
    have es : s_X9_places_l2 m t = put t 45 m (if m < (σ 6 0).toNatClampNeg ∧ ¬ s_X9_isOut σ (nI m) = 0 then σ 38 m else -1) := by
      unfold s_X9_places_l2
      try dsimp only
      rw [fr 6 (by decide), eo, fr 38 (by decide)]
      by_cases h1 : σ 6 0 ≤ nI m
      · rw [if_pos h1, if_neg (fun q => by have := le.mp h1; omega)]
      · rw [if_neg h1]
        have lt : m < (σ 6 0).toNatClampNeg := Nat.not_le.mp (fun q => h1 (le.mpr q))
        by_cases h2 : s_X9_isOut σ (nI m) = 0
        · rw [if_pos h2, if_neg (fun q => q.2 h2)]
        · rw [if_neg h2, if_pos ⟨lt, h2⟩]
    rw [es]
    show upd (t 45) m _ h = _
    by_cases hq : h = m
    · rw [hq, pk_us, if_pos (show m < m + 1 by omega)]
    · rw [pk_un hq, ih h]
      by_cases h1 : h < m
      · rw [if_pos h1, if_pos (show h < m + 1 by omega)]
      · rw [if_neg h1, if_neg (show ¬ h < m + 1 by omega)]
theorem pl_w {σ : St} (K : KR σ) (J4 : ∀ h : Nat, h < (σ 6 0).toNatClampNeg → ¬ σ 41 h = 0 → σ 38 h < 0) (n20 : (σ 6 0).toNatClampNeg ≤ 20) {h : Nat} (hh : h < (σ 6 0).toNatClampNeg) : s_X9_places σ 45 h = σ 38 h := by
  have e : s_X9_places σ = iter s_X9_places_l2 20 0 σ := by
    unfold s_X9_places s_X9_places_c2
    rfl
  rw [e, pl_eq σ 20 (Nat.le_refl 20) h, if_pos (by omega)]
  have m1 : σ 38 h < 0 → σ 38 h = -1 := fun q => (K.2.2.2.2 h hh).elim id (fun v => by
    rw [vp_in_iff] at v
    rw [Int32.lt_iff_toInt_lt, show (0 : Int32).toInt = 0 by decide] at q
    omega)
  by_cases h1 : s_X9_isOut σ (nI h) = 0
  · rw [if_neg (fun q => q.2 h1)]
    have h31 : h < 2 ^ 31 := by omega
    unfold s_X9_isOut at h1
    rw [nI_clamp h31] at h1
    by_cases c1 : σ 41 h = 0
    · rw [if_pos c1] at h1
      by_cases c2 : σ 38 h < 0
      · exact (m1 c2).symm
      · rw [if_neg c2] at h1
        exact absurd h1 (by decide)
    · exact (m1 (J4 h hh c1)).symm
  · rw [if_pos ⟨hh, h1⟩]
/-! grass, hunger: what is the same -/
def RC (σx σm : St) : Prop := σx 403 = σm 13 ∧ σx 405 = σm 17 ∧ σx 205 = σm 40 ∧ (∀ d : Nat, d ≤ 720 → σx 701 d = 10 * σm 23 d + σm 24 d) ∧ (∀ p : Nat, (σm 2 0).toNatClampNeg ≤ p → σm 17 p = 0) ∧ (∀ h : Nat, (σm 6 0).toNatClampNeg ≤ h → σm 40 h = 0) ∧ (∀ i : Nat, 0 ≤ (σm 22 i).toInt ∧ (σm 22 i).toInt ≤ 1000)
def KC (σ : St) : Prop := ∀ k : Nat, (0 ≤ (σ 13 k).toInt ∧ (σ 13 k).toInt ≤ (σ 14 k).toInt ∧ (σ 14 k).toInt ≤ 100000) ∧ (0 ≤ (σ 23 k).toInt ∧ (σ 23 k).toInt < 10) ∧ (0 ≤ (σ 24 k).toInt ∧ (σ 24 k).toInt < 10)
theorem kc_of {σ : St} (h : IR σ) : KC σ := fun k => ⟨ir_13 h k, ir_23 h k, ir_24 h k⟩
theorem sky {r w : Int32} (hr : 0 ≤ r.toInt ∧ r.toInt < 10) (hw : 0 ≤ w.toInt ∧ w.toInt < 10) : (10 * r + w) / 10 = r := by
  have t : (10 : Int32).toInt = 10 := by decide
  have e1 : (10 * r).toInt = 10 * r.toInt := by rw [mul_ti (by rw [t]; omega) (by rw [t]; omega), t]
  have e2 : (10 * r + w).toInt = 10 * r.toInt + w.toInt := by rw [add_ti (by rw [e1]; omega) (by rw [e1]; omega), e1]
  rw [← Int32.toInt_inj, div_ti (by omega) (by rw [t]; decide), e2, t]
  omega
theorem ph_b {σ : St} (h9 : ∀ h : Nat, (0 ≤ (σ 36 h).toInt ∧ (σ 36 h).toInt < 3) ∧ (0 ≤ (σ 37 h).toInt ∧ (σ 37 h).toInt ≤ 100)) (h : Nat) : 0 ≤ (wM σ h).toInt ∧ (wM σ h).toInt ≤ 4500 := by
  unfold wM s_X9_partsOfHerd
  have h1 := (h9 (nI h).toNatClampNeg).2
  have hp : ∀ x : Int32, 0 ≤ (s_X9_partsOfSort x).toInt ∧ (s_X9_partsOfSort x).toInt ≤ 45 := by
    intro x
    unfold s_X9_partsOfSort
    split
    · decide
    · split <;> decide
  have h2 := hp (σ 36 (nI h).toNatClampNeg)
  have h3 := Int.mul_le_mul h1.2 h2.2 h2.1 (by decide)
  have h4 := Int.mul_nonneg h1.1 h2.1
  rw [mul_ti (by omega) (by omega)]
  omega
/-- the pieces, one behind the other: both go through the day alike -/
def DS (s0 t0 tz : St) (n : Nat) (p : Nat) (q : Int32 × St) (y : St) : Prop := (∀ f : Nat, f ≠ 205 → f ≠ 300 → f ≠ 301 → f ≠ 302 → f ≠ 303 → f ≠ 304 → f ≠ 305 → f ≠ 306 → f ≠ 403 → f ≠ 405 → q.2 f = s0 f) ∧ (∀ f : Nat, f ≠ 13 → f ≠ 43 → f ≠ 46 → y f = tz f) ∧ q.2 403 = y 13 ∧ (∀ j : Nat, j < (t0 2 0).toNatClampNeg → q.2 405 j = s0 405 j + y 46 j) ∧ (∀ j : Nat, (t0 2 0).toNatClampNeg ≤ j → q.2 405 j = s0 405 j) ∧ (∀ h : Nat, h < n → q.2 205 h = s0 205 h + y 43 h) ∧ (∀ h : Nat, n ≤ h → q.2 205 h = s0 205 h) ∧ q.1 = Sm (y 43) n ∧ (∀ h j : Nat, h < n → p ≤ j → j < 2 ^ 31 → y 45 h = nI j → y 43 h = 0) ∧ (∀ j : Nat, 0 ≤ (y 13 j).toInt ∧ (y 13 j).toInt ≤ (y 14 j).toInt)
theorem ds_step {s0 t0 tz : St} {n : Nat} (E : RE s0 t0) (G14 : s0 400 = t0 14) (G18 : s0 402 = t0 18) (G22 : s0 700 = t0 22) (hn : (t0 6 0).toNatClampNeg = n) (n20 : n ≤ 20) (h9 : ∀ h : Nat, (0 ≤ (t0 36 h).toInt ∧ (t0 36 h).toInt < 3) ∧ (0 ≤ (t0 37 h).toInt ∧ (t0 37 h).toInt ≤ 100)) (hd : 0 ≤ (t0 1 0).toInt ∧ (t0 1 0).toInt ≤ 720) (SK : ∀ d : Nat, d ≤ 720 → s0 701 d = 10 * t0 23 d + t0 24 d) (K : KC t0) (R22 : ∀ i : Nat, 0 ≤ (t0 22 i).toInt ∧ (t0 22 i).toInt ≤ 1000) (tzf : ∀ f : Nat, f ≠ 43 → f ≠ 45 → f ≠ 46 → tz f = t0 f) (tz45 : ∀ h : Nat, h < n → tz 45 h = t0 38 h) {a1 : Int32} (ha1 : a1 = t0 1 0) {p : Nat} (hp : p < (t0 2 0).toNatClampNeg) {q : Int32 × St} {y : St} (ih : DS s0 t0 tz n p q y) : DS s0 t0 tz n (p + 1) (s_X8_grazeAll_l4 p q) (s_X9_goesA_l56 a1 tz p y) := by
  obtain ⟨v, x⟩ := q
  obtain ⟨i1, i2, i3, i4, i5, i6, i7, i8, i9, i10⟩ := ih
  have i1 : ∀ f : Nat, f ≠ 205 → f ≠ 300 → f ≠ 301 → f ≠ 302 → f ≠ 303 → f ≠ 304 → f ≠ 305 → f ≠ 306 → f ≠ 403 → f ≠ 405 → x f = s0 f := i1
  have i3 : x 403 = y 13 := i3
  have i4 : ∀ j : Nat, j < (t0 2 0).toNatClampNeg → x 405 j = s0 405 j + y 46 j := i4
  have i5 : ∀ j : Nat, (t0 2 0).toNatClampNeg ≤ j → x 405 j = s0 405 j := i5
  have i6 : ∀ h : Nat, h < n → x 205 h = s0 205 h + y 43 h := i6
  have i7 : ∀ h : Nat, n ≤ h → x 205 h = s0 205 h := i7
  have i8 : v = Sm (y 43) n := i8
  have p31 : p < 2 ^ 31 := Nat.lt_trans hp (tn_lt _)
  have X : ∀ f : Nat, f ≠ 205 → (f < 300 ∨ 307 ≤ f) → f ≠ 403 → f ≠ 405 → x f = s0 f := fun f a b c d => i1 f a (by omega) (by omega) (by omega) (by omega) (by omega) (by omega) (by omega) c d
  have Y : ∀ f : Nat, f ≠ 13 → f ≠ 43 → f ≠ 45 → f ≠ 46 → y f = t0 f := fun f a b c d => (i2 f a b d).trans (tzf f b c d)
  obtain ⟨e1, e2, e3, e4, e5, e6, e7, e8, e9, e10, e11, e12, e13, e14, e15, e16, e17, e18⟩ := id E
  have hu : ∀ h, h < n → x 203 h = y 45 h := fun h hh => by
    rw [X 203 (by decide) (by decide) (by decide) (by decide), e18, i2 45 (by decide) (by decide) (by decide), tz45 h hh]
  have hw : ∀ h, h < n → s_X2_parts x h = wM y h := fun h hh => by
    rw [pt_fr (X 201 (by decide) (by decide) (by decide) (by decide)) (X 202 (by decide) (by decide) (by decide) (by decide)), pp_eq E (h9 h).1 (by omega)]
    exact (ph_fr (Y 36 (by decide) (by decide) (by decide) (by decide)) (Y 37 (by decide) (by decide) (by decide) (by decide)) _).symm
  have wb : ∀ h, 0 ≤ (wM y h).toInt ∧ (wM y h).toInt ≤ 4500 := ph_b (fun h => by
    rw [Y 36 (by decide) (by decide) (by decide) (by decide), Y 37 (by decide) (by decide) (by decide) (by decide)]
    exact h9 h)
  have x816 : x 816 0 = t0 1 0 := by rw [X 816 (by decide) (by decide) (by decide) (by decide), e6]
  have x701 : x 701 (t0 1 0).toNatClampNeg = 10 * t0 23 (t0 1 0).toNatClampNeg + t0 24 (t0 1 0).toNatClampNeg := by
    rw [X 701 (by decide) (by decide) (by decide) (by decide)]
    exact SK _ (by rw [tn_toInt]; omega)
  have z : (0 : Int32).toInt = 0 := by decide
  have z7 : (720 : Int32).toInt = 720 := by decide
  have n1 : ¬ t0 1 0 < 0 := by
    rw [Int32.lt_iff_toInt_lt, z]
    omega
  have n2 : ¬ (720 : Int32) < t0 1 0 := by
    rw [Int32.lt_iff_toInt_lt, z7]
    omega
  have Kd := K (t0 1 0).toNatClampNeg
  have rn : s_X7_rainOn x (x 816 0) = t0 23 (t0 1 0).toNatClampNeg := by
    unfold s_X7_rainOn
    rw [x816, if_neg n1, if_neg n2, x701, sky Kd.2.1 Kd.2.2]
  have rt : s_X7_rateOn x (x 816 0) = t0 22 (10 * t0 23 (t0 1 0).toNatClampNeg + t0 24 (t0 1 0).toNatClampNeg).toNatClampNeg := by
    unfold s_X7_rateOn
    rw [x816, if_neg n1, if_neg n2, x701, X 700 (by decide) (by decide) (by decide) (by decide), G22]
  have eall := dall_x (c := nI p) hu hw
  have y14 : y 14 = t0 14 := Y 14 (by decide) (by decide) (by decide) (by decide)
  have y18 : y 18 = t0 18 := Y 18 (by decide) (by decide) (by decide) (by decide)
  have x400 : x 400 = t0 14 := (X 400 (by decide) (by decide) (by decide) (by decide)).trans G14
  have x402 : x 402 = t0 18 := (X 402 (by decide) (by decide) (by decide) (by decide)).trans G18
  have db := dall_bd (u := y 45) (w := wM y) (c := nI p) n20 (fun h _ => wb h)
  have g13 := i10 p
  have f14 : (y 14 p).toInt ≤ 100000 := by
    rw [y14]
    exact (K p).1.2.2
  obtain ⟨gr, hgr⟩ : ∃ g, dGrown (dAll (y 45) (wM y) (nI p) n) (y 13 p) (y 14 p) (t0 23 (t0 1 0).toNatClampNeg) (t0 22 (10 * t0 23 (t0 1 0).toNatClampNeg + t0 24 (t0 1 0).toNatClampNeg).toNatClampNeg) = g := ⟨_, rfl⟩
  have gb := grown_b (all := dAll (y 45) (wM y) (nI p) n) (rain := t0 23 (t0 1 0).toNatClampNeg) g13 f14 (R22 (10 * t0 23 (t0 1 0).toNatClampNeg + t0 24 (t0 1 0).toNatClampNeg).toNatClampNeg) ⟨db.1, db.2.1⟩
  rw [hgr] at gb
  have hnx : (x 815 0).toNatClampNeg = n := by rw [X 815 (by decide) (by decide) (by decide) (by decide), e5, hn]
  obtain ⟨z1, z2, z3, z4, z5⟩ := gz (σ := x) (p := p) hnx n20 p31 (fun h hh => by rw [hw h hh]; exact wb h) (gr := gr) (by rw [eall, i3, x400, rn, rt, ← y14]; exact hgr) gb.1
  rw [eall] at z2 z3
  have eH : ∀ h, h < n → dHun (x 203) (s_X2_parts x) (nI p) n (x 402 p) gr h = dHun (y 45) (wM y) (nI p) n (y 18 p) gr h := fun h hh => by
    rw [x402, y18]
    exact dhun_x hu hw _ _ hh
  have a23 : tz 23 a1.toNatClampNeg = t0 23 (t0 1 0).toNatClampNeg := by rw [tzf 23 (by decide) (by decide) (by decide), ha1]
  obtain ⟨w1, w2, w3⟩ := gmA (y := y) (τ1 := tz) (a1 := a1) (rain := t0 23 (t0 1 0).toNatClampNeg) (rate := t0 22 (10 * t0 23 (t0 1 0).toNatClampNeg + t0 24 (t0 1 0).toNatClampNeg).toNatClampNeg) (gr := gr) (n := n) (p := p) (by rw [Y 6 (by decide) (by decide) (by decide) (by decide)]; exact hn) n20 p31 wb g13 f14 a23 (by rw [tzf 22 (by decide) (by decide) (by decide), tzf 23 (by decide) (by decide) (by decide), tzf 24 (by decide) (by decide) (by decide), ha1]) (R22 _) (fun h hh q => i9 h p hh (Nat.le_refl p) p31 q) hgr
  have yf : ∀ f : Nat, f ≠ 13 → f ≠ 43 → f ≠ 46 → s_X9_goesA_l56 a1 tz p y f = y f := fun f a b c => fr_s_X9_goesA_l56 a1 tz p y a b c
  obtain ⟨y', hy'⟩ : ∃ t, s_X9_goesA_l56 a1 tz p y = t := ⟨_, rfl⟩
  rw [hy'] at w1 w2 w3 yf ⊢
  obtain ⟨gx, hgx⟩ : ∃ g, s_X8_graze x (nI p) = g := ⟨_, rfl⟩
  have xf : ∀ f : Nat, f ≠ 205 → f ≠ 300 → f ≠ 301 → f ≠ 302 → f ≠ 303 → f ≠ 304 → f ≠ 305 → f ≠ 306 → f ≠ 403 → f ≠ 405 → gx.2 f = x f := by
    rw [← hgx]
    exact fun f a b c d e g h i j k => fr_s_X8_graze x (nI p) a b c d e g h i j k
  rw [hgx] at z1 z2 z3 z4 z5
  have es : s_X8_grazeAll_l4 p (v, x) = (v + gx.1, gx.2) := by
    unfold s_X8_grazeAll_l4
    try dsimp only
    rw [hgx]
  rw [es]
  have y43 : ∀ h, h < n → y' 43 h = y 43 h + (if y 45 h = nI p then dHun (y 45) (wM y) (nI p) n (y 18 p) gr h else 0) := fun h hh => by
    rw [w3 h]
    by_cases c1 : y 45 h = nI p
    · rw [if_pos ⟨hh, c1⟩, if_pos c1, i9 h p hh (Nat.le_refl p) p31 c1, Int32.zero_add]
    · rw [if_neg (fun q => c1 q.2), if_neg c1, Int32.add_zero]
  have ht : ∀ h, h < n → (if x 203 h = nI p then dHun (x 203) (s_X2_parts x) (nI p) n (x 402 p) gr h else 0) = (if y 45 h = nI p then dHun (y 45) (wM y) (nI p) n (y 18 p) gr h else 0) := fun h hh => by rw [hu h hh, eH h hh]
  refine ⟨fun f a b c d e g h i j k => (xf f a b c d e g h i j k).trans (i1 f a b c d e g h i j k), fun f a b c => (yf f a b c).trans (i2 f a b c), ?_, fun j hj => ?_, fun j hj => ?_, fun h hh => ?_, fun h hh => ?_, ?_, fun h j hh hj j31 q => ?_, fun j => ?_⟩
  · show gx.2 403 = y' 13
    rw [z2, w1, i3]
  · show gx.2 405 j = s0 405 j + y' 46 j
    rw [z3, w2]
    by_cases hq : j = p
    · rw [hq, pk_us, pk_us, i4 p hp, Int32.add_assoc]
    · rw [pk_un hq, pk_un hq]
      exact i4 j hj
  · show gx.2 405 j = s0 405 j
    rw [z3, pk_un (show j ≠ p by omega)]
    exact i5 j hj
  · show gx.2 205 h = s0 205 h + y' 43 h
    rw [z4 h hh, i6 h hh, y43 h hh, ht h hh, Int32.add_assoc]
  · show gx.2 205 h = s0 205 h
    rw [z5 h hh]
    exact i7 h hh
  · show v + gx.1 = Sm (y' 43) n
    rw [z1, i8, sm_ext (f := y' 43) (g := fun h => y 43 h + (if y 45 h = nI p then dHun (y 45) (wM y) (nI p) n (y 18 p) gr h else 0)) y43, sm_ext ht, sm_plus]
  · have q : y' 45 h = nI j := q
    rw [yf 45 (by decide) (by decide) (by decide)] at q
    have ne : ¬ y 45 h = nI p := fun e => by
      have := nI_inj p31 j31 (e.symm.trans q)
      omega
    rw [w3 h, if_neg (fun c => ne c.2)]
    exact i9 h j hh (by omega) j31 q
  · rw [w1, yf 14 (by decide) (by decide) (by decide)]
    by_cases hq : j = p
    · rw [hq, pk_us]
      have et : 0 ≤ (dEat (dAll (y 45) (wM y) (nI p) n) gr).toInt ∧ (dEat (dAll (y 45) (wM y) (nI p) n) gr).toInt ≤ gr.toInt := by
        unfold dEat
        have := db.1
        by_cases c : dAll (y 45) (wM y) (nI p) n < gr
        · rw [if_pos c]
          rw [Int32.lt_iff_toInt_lt] at c
          omega
        · rw [if_neg c]
          omega
      have := gr.toInt_lt
      rw [sub_ti (by omega) (by omega)]
      omega
    · rw [pk_un hq]
      exact i10 j
