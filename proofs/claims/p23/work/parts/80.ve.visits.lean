/-! what the turning herds hunger on a piece, in the class -/
theorem sI_ge {f : Nat → Int} {j : Nat} : ∀ {n : Nat}, (∀ h, h < n → 0 ≤ f h) → j < n → f j ≤ sI f n := by
  intro n
  induction n with
  | zero => intro _ h; exact absurd h (Nat.not_lt_zero j)
  | succ n ih =>
    intro hf hj
    have a := sI_low (n := n) (fun h hh => hf h (by omega))
    have b := hf n (by omega)
    show f j ≤ sI f n + f n
    by_cases e : j = n
    · rw [e]
      omega
    · have := ih (fun h hh => hf h (by omega)) (by omega)
      omega
theorem dall_z {u w : Nat → Int32} {c : Int32} {n : Nat} (hn : n ≤ 20) (hw : ∀ h, h < n → 0 ≤ (w h).toInt ∧ (w h).toInt ≤ 4500) (hz : dAll u w c n ≤ 0) {h : Nat} (hh : h < n) (hc : u h = c) : w h = 0 := by
  have z : (0 : Int32).toInt = 0 := by decide
  have b := (dall_bd (u := u) (c := c) hn hw).2.2
  rw [Int32.le_iff_toInt_le, z, b] at hz
  have g := sI_ge (f := fun h => if u h = c then (w h).toInt else 0) (j := h) (n := n) (fun k hk => by
    show 0 ≤ (if u k = c then (w k).toInt else 0)
    split
    · exact (hw k hk).1
    · exact Int.le_refl _) hh
  have g : (if u h = c then (w h).toInt else 0) ≤ sI (fun h => if u h = c then (w h).toInt else 0) n := g
  rw [if_pos hc] at g
  have := (hw h hh).1
  rw [← Int32.toInt_inj, z]
  omega
theorem dhun_z {u w : Nat → Int32} {c : Int32} {n : Nat} (hn : n ≤ 20) (hw : ∀ h, h < n → 0 ≤ (w h).toInt ∧ (w h).toInt ≤ 4500) (hz : dAll u w c n ≤ 0) (water gr : Int32) {h : Nat} (hh : h < n) (hc : u h = c) : dHun u w c n water gr h = 0 := by
  unfold dHun dShare
  rw [if_pos hz, dall_z hn hw hz hh hc]
  split <;> rfl
theorem dhun_p {u u2 w w2 : Nat → Int32} {c : Int32} {n : Nat} (hu : ∀ h, h < n → (u2 h = c ↔ u h = c)) (hw : ∀ h, h < n → w h = w2 h) (water gr : Int32) {h : Nat} (hh : h < n) : dHun u w c n water gr h = dHun u2 w2 c n water gr h := by
  have e : ∀ {α : Type} (k : Nat) (x y : α), k < n → (if u k = c then x else y) = if u2 k = c then x else y := fun k x y hk => by
    by_cases q : u k = c
    · rw [if_pos q, if_pos ((hu k hk).mpr q)]
    · rw [if_neg q, if_neg (fun z => q ((hu k hk).mp z))]
  have eD : dAll u w c n = dAll u2 w2 c n := sm_ext (fun k hk => by rw [hw k hk, e k _ _ hk])
  have eL : ∀ lack all, dLeft u w c n lack all = dLeft u2 w2 c n lack all := fun lack all => by
    unfold dLeft
    rw [sm_ext (f := fun h => if u h = c then dQ lack all (w h) else 0) (g := fun h => if u2 h = c then dQ lack all (w2 h) else 0) (fun k hk => by
      show (if u k = c then dQ lack all (w k) else 0) = _
      rw [hw k hk, e k _ _ hk])]
  have eA : ∀ lack all, dAhead u w c n lack all h = dAhead u2 w2 c n lack all h := fun lack all => by
    unfold dAhead
    rw [hw h hh]
    exact sm_ext (fun k hk => by rw [hw k hk, e k _ _ hk])
  unfold dHun dShare
  rw [eL, eA, eD, hw h hh]
/-- a herd is there in a step: by its bit if it turns, else by its piece -/
def thr (σ : St) (w i1 i2 p : Nat) (v : Int32) (s h : Nat) : Prop := if h = i1 then bt v (s * w) = true else if w = 2 ∧ h = i2 then bt v (s * w + 1) = true else σ 203 h = nI p
theorem gs_eq {τ σ1 : St} {w i1 i2 p n s : Nat} {v a2 : Int32} (w12 : w = 1 ∨ w = 2) (hn : (σ1 815 0).toNatClampNeg = n) (n20 : n ≤ 20) (hi1 : i1 < n) (hi2 : w = 2 → i2 < n ∧ i1 ≠ i2) (h605 : σ1 605 0 = nI i1) (h606 : σ1 606 0 = a2) (h607 : σ1 607 0 = nI w) (ha2 : (w = 2 → a2 = nI i2) ∧ (w = 1 → a2 = -1)) (s4 : s < 4) (hτ : ∀ f : Nat, (f < 300 ∨ 307 ≤ f) → (f < 620 ∨ 626 ≤ f) → τ f = σ1 f) (u : Nat → Int32) (hu : ∀ h, h < n → (u h = nI p ↔ thr σ1 w i1 i2 p v s h)) : ∃ (m : Nat) (num : Nat → Nat), GS u (s_X2_parts σ1) (nI p) n (s_X8_gatherForStep τ (nI p) v (nI s)) m num ∧ (∀ i, i < m → s_X8_gatherForStep τ (nI p) v (nI s) 302 i = 0) := by
  have cf : ∀ f : Nat, f ≠ 304 → f ≠ 305 → f ≠ 306 → s_X3_clear τ f = τ f := fun f a b c => fr_s_X3_clear τ a b c
  have e815 : ((s_X3_clear τ) 815 0).toNatClampNeg - 0 = n := by
    rw [cf 815 (by decide) (by decide) (by decide), hτ 815 (by decide) (by decide), hn]
    omega
  have eg : s_X8_gatherForStep τ (nI p) v (nI s) = iter (s_X8_gatherForStep_l10 (nI p) v (nI s)) n 0 (s_X3_clear τ) := by
    unfold s_X8_gatherForStep s_X8_gatherForStep_c10
    rw [e815]
  rw [eg]
  obtain ⟨m, num, G, z, -⟩ := gather u (s_X2_parts σ1) (nI p) (s_X3_clear τ) (fun k t => if k < n then s_X8_gatherForStep_l10 (nI p) v (nI s) k t else (if u k = nI p then s_X3_add t (nI k) (s_X2_parts σ1 k) else t)) (fun k t hk ht => by
    by_cases hkn : k < n
    · show (if k < n then s_X8_gatherForStep_l10 (nI p) v (nI s) k t else _) = _
      rw [if_pos hkn]
      have T : ∀ f : Nat, (f < 300 ∨ 307 ≤ f) → (f < 620 ∨ 626 ≤ f) → t f = σ1 f := fun f a b => (ht f (by omega) (by omega) (by omega) (by omega) (by omega)).trans ((cf f (by omega) (by omega) (by omega)).trans (hτ f a b))
      have t605 : t 605 0 = nI i1 := by rw [T 605 (by decide) (by decide), h605]
      have t606 : t 606 0 = a2 := by rw [T 606 (by decide) (by decide), h606]
      have t607 : t 607 0 = nI w := by rw [T 607 (by decide) (by decide), h607]
      have t203 : t 203 = σ1 203 := T 203 (by decide) (by decide)
      have pt : s_X2_parts t k = s_X2_parts σ1 k := pt_fr (T 201 (by decide) (by decide)) (T 202 (by decide) (by decide)) k
      have sw : s * w < 1000 := by
        have : s * w ≤ 4 * 2 := Nat.mul_le_mul (by omega) (by omega)
        omega
      have q1 : (nI k = nI i1) ↔ k = i1 := ⟨fun e => nI_inj (by omega) (by omega) e, fun e => by rw [e]⟩
      have iff := hu k hkn
      unfold thr at iff
      have j64 : ∀ (y : Int32) (P : Prop) [Decidable P], (u k = nI p ↔ P) → (y = if P then 1 else 0) → s_X8_gatherForStep_j64 k t y = if u k = nI p then s_X3_add t (nI k) (s_X2_parts σ1 k) else t := fun y P _ h1 h2 => by
        unfold s_X8_gatherForStep_j64
        rw [pt]
        by_cases c : P
        · rw [h2, if_pos c, if_neg (by decide), if_pos (h1.mpr c)]
        · rw [h2, if_neg c, if_pos rfl, if_neg (fun z => c (h1.mp z))]
      unfold s_X8_gatherForStep_l10 s_X6_isTurning s_X6_visitsIn s_X6_visitsIn_j19
      try dsimp only
      rw [t605, t606, t607, t203]
      have o1 : (1 : Int32) = nI 1 := by decide
      have bit : ∀ b : Nat, b < 32 → (if ((v >>> (nI b &&& 31)) &&& (1 : Int32)) = (1 : Int32) then (1 : Int32) else 0) = if bt v b = true then 1 else 0 := fun b hb => by
        rw [tb_t v hb]
        cases bt v b with
        | true => rfl
        | false => rfl
      by_cases c1 : k = i1
      · rw [if_pos c1] at iff
        rw [if_pos (q1.mpr c1), if_neg (by decide), if_pos (q1.mpr c1), nI_mu sw (by omega) (by omega), Int32.add_zero]
        exact j64 _ (bt v (s * w) = true) iff (bit _ (by have : s * w ≤ 4 * 2 := Nat.mul_le_mul (by omega) (by omega); omega))
      · rw [if_neg c1] at iff
        rw [if_neg (fun z => c1 (q1.mp z))]
        by_cases c2 : w = 2 ∧ k = i2
        · rw [if_pos c2] at iff
          have e2 : nI k = a2 := by rw [ha2.1 c2.1, c2.2]
          rw [if_pos e2, if_neg (by decide), if_neg (fun z => c1 (q1.mp z)), nI_mu sw (by omega) (by omega), o1, nI_ad (by omega), ← o1]
          exact j64 _ (bt v (s * w + 1) = true) iff (bit _ (by have : s * w ≤ 4 * 2 := Nat.mul_le_mul (by omega) (by omega); omega))
        · rw [if_neg c2] at iff
          have e2 : ¬ nI k = a2 := fun z => by
            rcases w12 with w1 | w2
            · rw [ha2.2 w1] at z
              exact m1_ne (by omega) z
            · rw [ha2.1 w2] at z
              exact c2 ⟨w2, nI_inj (by omega) (by have := (hi2 w2).1; omega) z⟩
          rw [if_neg e2, if_pos rfl]
          by_cases c3 : σ1 203 k = nI p
          · rw [if_pos c3]
            exact j64 1 True ⟨fun _ => trivial, fun _ => iff.mpr c3⟩ rfl
          · rw [if_neg c3]
            exact j64 0 False ⟨fun z => c3 (iff.mp z), fun z => z.elim⟩ rfl
    · show (if k < n then s_X8_gatherForStep_l10 (nI p) v (nI s) k t else _) = _
      rw [if_neg hkn]) rfl rfl n n20
  have same : ∀ m : Nat, m ≤ n → iter (fun k t => if k < n then s_X8_gatherForStep_l10 (nI p) v (nI s) k t else (if u k = nI p then s_X3_add t (nI k) (s_X2_parts σ1 k) else t)) m 0 (s_X3_clear τ) = iter (s_X8_gatherForStep_l10 (nI p) v (nI s)) m 0 (s_X3_clear τ) := by
    intro m
    induction m with
    | zero => intro _; rfl
    | succ m ih =>
      intro hm
      rw [iter_snoc, iter_snoc, ih (by omega), Nat.zero_add, if_pos (show m < n by omega)]
  rw [same n (Nat.le_refl n)] at G z
  exact ⟨m, num, G, z⟩
def hv1 (σm : St) (U : Nat → Nat → Int32) (n w i1 i2 p d : Nat) : Int32 := (if U d i1 = nI p then hP σm U n p d i1 else 0) + (if w = 2 then (if U d i2 = nI p then hP σm U n p d i2 else 0) else 0)
theorem hv_eq {σ1 σm : St} {w i1 i2 p n A D : Nat} {v a2 : Int32} (E : RE σ1 σm) (G14 : σ1 400 = σm 14) (G18 : σ1 402 = σm 18) (G22 : σ1 700 = σm 22) (H13 : σ1 403 = σm 13) (SK : ∀ d : Nat, d ≤ 720 → σ1 701 d = 10 * σm 23 d + σm 24 d) (K : KC σm) (R22 : ∀ i : Nat, 0 ≤ (σm 22 i).toInt ∧ (σm 22 i).toInt ≤ 1000) (h9 : ∀ h : Nat, (0 ≤ (σm 36 h).toInt ∧ (σm 36 h).toInt < 3) ∧ (0 ≤ (σm 37 h).toInt ∧ (σm 37 h).toInt ≤ 100)) (w12 : w = 1 ∨ w = 2) (hn : (σm 6 0).toNatClampNeg = n) (n20 : n ≤ 20) (hi1 : i1 < n) (hi2 : w = 2 → i2 < n ∧ i1 ≠ i2) (h605 : σ1 605 0 = nI i1) (h606 : σ1 606 0 = a2) (h607 : σ1 607 0 = nI w) (h608 : σ1 608 0 = nI A) (h609 : σ1 609 0 = nI D) (ha2 : (w = 2 → a2 = nI i2) ∧ (w = 1 → a2 = -1)) (p31 : p < 2 ^ 31) (A4 : A ≤ 4) (D1 : 0 < D) (D10 : D ≤ 10) (d0 : 0 ≤ (σm 1 0).toInt) (hd : (σm 1 0).toNatClampNeg + A * D ≤ 720) {τ : St} (hτ : ∀ f : Nat, (f < 300 ∨ 307 ≤ f) → (f < 620 ∨ 626 ≤ f) → τ f = σ1 f) (U : Nat → Nat → Int32) (hU : ∀ s k h, s < A → k < D → h < n → (U (s * D + k) h = nI p ↔ thr σ1 w i1 i2 p v s h)) : (s_X8_hungerOfVisits τ (nI p) v).1 = Sm (hv1 σm U n w i1 i2 p) (A * D) := by
  have hw : ∀ h, 0 ≤ (wM σm h).toInt ∧ (wM σm h).toInt ≤ 4500 := ph_b h9
  have ew : ∀ h, h < n → s_X2_parts σ1 h = wM σm h := fun h hh => pp_eq E (h9 h).1 (by omega)
  have hwx : ∀ h, h < n → 0 ≤ (s_X2_parts σ1 h).toInt ∧ (s_X2_parts σ1 h).toInt ≤ 4500 := fun h hh => by rw [ew h hh]; exact hw h
  have hn1 : (σ1 815 0).toNatClampNeg = n := by rw [show σ1 815 = σm 6 from E.2.2.2.2.1, hn]
  have e816 : σ1 816 = σm 1 := E.2.2.2.2.2.1
  have eH : (s_X8_hungerOfVisits τ (nI p) v).1 = (iter (s_X8_hungerOfVisits_l25 (nI p) v) A 0 (σm 1 0, (0 : Int32), σm 13 p, τ)).2.1 := by
    unfold s_X8_hungerOfVisits
    rw [hτ 608 (by decide) (by decide), h608, nI_clamp (by omega), Nat.sub_zero, nI_clamp p31, hτ 403 (by decide) (by decide), H13, hτ 816 (by decide) (by decide), e816]
    generalize iter (s_X8_hungerOfVisits_l25 (nI p) v) A 0 (σm 1 0, (0 : Int32), σm 13 p, τ) = r
    obtain ⟨a, b, c, d⟩ := r
    rfl
  rw [eH]
  have c48 : ∀ q : Int32 × Int32 × Int32 × St, s_X8_hungerOfVisits_c48 q = q := fun q => by
    obtain ⟨a, b, c, d⟩ := q
    rfl
  have eday : σm 1 0 = nI (σm 1 0).toNatClampNeg := nI_v d0
  have key := it_ind (L := s_X8_hungerOfVisits_l25 (nI p) v) (P := fun s (q : Int32 × Int32 × Int32 × St) => q.1 = nI ((σm 1 0).toNatClampNeg + s * D) ∧ q.2.1 = Sm (hv1 σm U n w i1 i2 p) (s * D) ∧ q.2.2.1 = gP σm U n p (s * D) ∧ (∀ f : Nat, (f < 300 ∨ 307 ≤ f) → (f < 620 ∨ 626 ≤ f) → q.2.2.2 f = σ1 f)) (s := (σm 1 0, (0 : Int32), σm 13 p, τ)) ⟨by rw [Nat.zero_mul, Nat.add_zero]; exact eday, by rw [Nat.zero_mul]; rfl, by rw [Nat.zero_mul]; rfl, hτ⟩ A (fun s q hs ih => by
    obtain ⟨v6, v5, v4, t⟩ := q
    obtain ⟨i1', i2', i3', i4'⟩ := ih
    have i1' : v6 = nI ((σm 1 0).toNatClampNeg + s * D) := i1'
    have i2' : v5 = Sm (hv1 σm U n w i1 i2 p) (s * D) := i2'
    have i3' : v4 = gP σm U n p (s * D) := i3'
    have i4' : ∀ f : Nat, (f < 300 ∨ 307 ≤ f) → (f < 620 ∨ 626 ≤ f) → t f = σ1 f := i4'
    have sD : s * D + D ≤ A * D := by
      have := Nat.mul_le_mul_right D hs
      rw [Nat.succ_mul] at this
      exact this
    obtain ⟨m, num, G, z⟩ := gs_eq (τ := t) (σ1 := σ1) (s := s) (v := v) (p := p) w12 hn1 n20 hi1 hi2 h605 h606 h607 ha2 (by omega) i4' (U (s * D)) (fun h hh => by
      have := hU s 0 h hs D1 hh
      rw [Nat.add_zero] at this
      exact this)
    obtain ⟨tg, htg⟩ : ∃ g, s_X8_gatherForStep t (nI p) v (nI s) = g := ⟨_, rfl⟩
    rw [htg] at G z
    have tgf : ∀ f : Nat, (f < 300 ∨ 307 ≤ f) → (f < 620 ∨ 626 ≤ f) → tg f = σ1 f := fun f a b => by
      rw [← htg, fr_s_X8_gatherForStep t (nI p) v (nI s) (by omega) (by omega) (by omega) (by omega) (by omega) (by omega)]
      exact i4' f a b
    have e25 : s_X8_hungerOfVisits_l25 (nI p) v s (v6, v5, v4, t) = iter (s_X8_hungerOfVisits_l48 (nI p)) D 0 (v6, v5, v4, tg) := by
      unfold s_X8_hungerOfVisits_l25
      try dsimp only
      rw [htg, tgf 609 (by decide) (by decide), h609, nI_clamp (by omega), Nat.sub_zero, c48]
    rw [e25]
    have onU : ∀ k h, k < D → h < n → (U (s * D + k) h = nI p ↔ U (s * D) h = nI p) := fun k h hk hh => by
      have a := hU s k h hs hk hh
      have b := hU s 0 h hs D1 hh
      rw [Nat.add_zero] at b
      exact a.trans b.symm
    have inner := it_ind (L := s_X8_hungerOfVisits_l48 (nI p)) (P := fun k (q : Int32 × Int32 × Int32 × St) => q.1 = nI ((σm 1 0).toNatClampNeg + s * D + k) ∧ q.2.1 = Sm (hv1 σm U n w i1 i2 p) (s * D + k) ∧ q.2.2.1 = gP σm U n p (s * D + k) ∧ (∀ f : Nat, (f < 300 ∨ 307 ≤ f) → (f < 620 ∨ 626 ≤ f) → q.2.2.2 f = σ1 f) ∧ GS (U (s * D)) (s_X2_parts σ1) (nI p) n q.2.2.2 m num ∧ (dAll (U (s * D)) (s_X2_parts σ1) (nI p) n ≤ 0 → ∀ i, i < m → q.2.2.2 302 i = 0)) (s := (v6, v5, v4, tg)) ⟨i1', i2', i3', tgf, G, fun _ => z⟩ D (fun k q hk ih => by
      obtain ⟨x6, x5, x4, y⟩ := q
      obtain ⟨j1, j2, j3, j4, j5, j6⟩ := ih
      have j1 : x6 = nI ((σm 1 0).toNatClampNeg + s * D + k) := j1
      have j2 : x5 = Sm (hv1 σm U n w i1 i2 p) (s * D + k) := j2
      have j3 : x4 = gP σm U n p (s * D + k) := j3
      have j4 : ∀ f : Nat, (f < 300 ∨ 307 ≤ f) → (f < 620 ∨ 626 ≤ f) → y f = σ1 f := j4
      have j5 : GS (U (s * D)) (s_X2_parts σ1) (nI p) n y m num := j5
      have j6 : dAll (U (s * D)) (s_X2_parts σ1) (nI p) n ≤ 0 → ∀ i, i < m → y 302 i = 0 := j6
      have o1 : (1 : Int32) = nI 1 := by decide
      have x61 : x6 + 1 = nI ((σm 1 0).toNatClampNeg + 1 + (s * D + k)) := by
        rw [j1, o1, nI_ad (by omega), show (σm 1 0).toNatClampNeg + s * D + k + 1 = (σm 1 0).toNatClampNeg + 1 + (s * D + k) by omega]
      have dN : (σm 1 0).toNatClampNeg + 1 + (s * D + k) ≤ 720 := by omega
      have y701 : y 701 ((σm 1 0).toNatClampNeg + 1 + (s * D + k)) = 10 * σm 23 ((σm 1 0).toNatClampNeg + 1 + (s * D + k)) + σm 24 ((σm 1 0).toNatClampNeg + 1 + (s * D + k)) := by
        rw [j4 701 (by decide) (by decide)]
        exact SK _ dN
      have n1 : ¬ nI ((σm 1 0).toNatClampNeg + 1 + (s * D + k)) < 0 := nI_n0 (by omega)
      have n2 : ¬ (720 : Int32) < nI ((σm 1 0).toNatClampNeg + 1 + (s * D + k)) := by
        rw [Int32.lt_iff_toInt_lt, nI_toInt (by omega), show (720 : Int32).toInt = 720 by decide]
        omega
      have rn : s_X7_rainOn y (x6 + 1) = rnD σm (s * D + k) := by
        unfold s_X7_rainOn
        rw [x61, if_neg n1, if_neg n2, nI_clamp (by omega), y701, sky (K _).2.1 (K _).2.2]
        rfl
      have rt : s_X7_rateOn y (x6 + 1) = rtD σm (s * D + k) := by
        unfold s_X7_rateOn
        rw [x61, if_neg n1, if_neg n2, nI_clamp (by omega), y701, j4 700 (by decide) (by decide), G22]
        rfl
      have y400 : y 400 = σm 14 := (j4 400 (by decide) (by decide)).trans G14
      have y402 : y 402 = σm 18 := (j4 402 (by decide) (by decide)).trans G18
      have eall : dAll (U (s * D)) (s_X2_parts σ1) (nI p) n = dAll (U (s * D + k)) (wM σm) (nI p) n := by
        refine sm_ext (fun h hh => ?_)
        rw [ew h hh]
        by_cases c : U (s * D) h = nI p
        · rw [if_pos c, if_pos ((onU k h hk hh).mpr c)]
        · rw [if_neg c, if_neg (fun q => c ((onU k h hk hh).mp q))]
      have egr : dGrown (dAll (U (s * D)) (s_X2_parts σ1) (nI p) n) x4 (y 400 p) (rnD σm (s * D + k)) (rtD σm (s * D + k)) = grP σm U n p (s * D + k) := by
        rw [eall, j3, y400]
        rfl
      have P := pd j5 n20 hwx j6 p x4 (rnD σm (s * D + k)) (rtD σm (s * D + k)) (by rw [egr]; exact grp_b K R22 hw U n20 p (s * D + k))
      rw [egr, y402] at P
      obtain ⟨q1, -, q3, q4⟩ := P
      obtain ⟨pr, hpr⟩ : ∃ r, s_X3_passDay y p x4 (rnD σm (s * D + k)) (rtD σm (s * D + k)) = r := ⟨_, rfl⟩
      rw [hpr] at q1 q3 q4
      obtain ⟨pv, pt⟩ := pr
      have q1 : pv = grP σm U n p (s * D + k) - dEat (dAll (U (s * D)) (s_X2_parts σ1) (nI p) n) (grP σm U n p (s * D + k)) := q1
      have q3 : ∀ f : Nat, f ≠ 302 → f ≠ 303 → f ≠ 306 → pt f = y f := q3
      have q4 : ∀ i, i < m → pt 302 i = dHun (U (s * D)) (s_X2_parts σ1) (nI p) n (σm 18 p) (grP σm U n p (s * D + k)) (num i) := q4
      have ptf : ∀ f : Nat, (f < 300 ∨ 307 ≤ f) → (f < 620 ∨ 626 ≤ f) → pt f = σ1 f := fun f a b => (q3 f (by omega) (by omega) (by omega)).trans (j4 f a b)
      have G2 : GS (U (s * D)) (s_X2_parts σ1) (nI p) n pt m num := by
        obtain ⟨g1, g2, g3, g4, g5, g6, g7, g8⟩ := j5
        refine ⟨g1, ?_, fun i hi => ?_, g4, g5, g6, ?_, g8⟩
        · rw [q3 304 (by decide) (by decide) (by decide)]
          exact g2
        · rw [q3 300 (by decide) (by decide) (by decide), q3 301 (by decide) (by decide) (by decide)]
          exact g3 i hi
        · rw [q3 305 (by decide) (by decide) (by decide)]
          exact g7
      have eh : ∀ h, h < n → dHun (U (s * D)) (s_X2_parts σ1) (nI p) n (σm 18 p) (grP σm U n p (s * D + k)) h = hP σm U n p (s * D + k) h := fun h hh => dhun_p (fun j hj => onU k j hk hj) ew _ _ hh
      have ho : ∀ h, h < n → s_X3_hungerOf pt (nI h) = if U (s * D + k) h = nI p then hP σm U n p (s * D + k) h else 0 := fun h hh => by
        rw [hg_eq G2 n20 (F := dHun (U (s * D)) (s_X2_parts σ1) (nI p) n (σm 18 p) (grP σm U n p (s * D + k))) q4 hh, eh h hh]
        by_cases c : U (s * D) h = nI p
        · rw [if_pos c, if_pos ((onU k h hk hh).mpr c)]
        · rw [if_neg c, if_neg (fun q => c ((onU k h hk hh).mp q))]
      have ho2 : s_X3_hungerOf pt (pt 606 0) = if w = 2 then (if U (s * D + k) i2 = nI p then hP σm U n p (s * D + k) i2 else 0) else 0 := by
        rw [ptf 606 (by decide) (by decide), h606]
        rcases w12 with w1 | w2
        · rw [ha2.2 w1, if_neg (by omega)]
          unfold s_X3_hungerOf
          refine ho_no _ 0 (fun j _ hj e => ?_)
          obtain ⟨g1, g2, g3, -⟩ := G2
          rw [g2, nI_clamp (by omega)] at hj
          have a := g3 j (by omega)
          rw [a.2.2.1] at e
          exact m1_ne (by omega) e
        · rw [ha2.1 w2, if_pos w2]
          exact ho i2 (hi2 w2).1
      have el : s_X8_hungerOfVisits_l48 (nI p) k (x6, x5, x4, y) = (x6 + 1, x5 + hv1 σm U n w i1 i2 p (s * D + k), pv, pt) := by
        unfold s_X8_hungerOfVisits_l48
        try dsimp only
        rw [rn, rt, nI_clamp p31, hpr]
        show (x6 + 1, x5 + (s_X3_hungerOf pt (pt 605 0) + s_X3_hungerOf pt (pt 606 0)), pv, pt) = _
        rw [ho2, ptf 605 (by decide) (by decide), h605, ho i1 hi1]
        rfl
      rw [el]
      refine ⟨?_, ?_, ?_, ptf, G2, fun hz i hi => ?_⟩
      · show x6 + 1 = nI ((σm 1 0).toNatClampNeg + s * D + (k + 1))
        rw [x61, show (σm 1 0).toNatClampNeg + 1 + (s * D + k) = (σm 1 0).toNatClampNeg + s * D + (k + 1) by omega]
      · show x5 + hv1 σm U n w i1 i2 p (s * D + k) = Sm (hv1 σm U n w i1 i2 p) (s * D + k) + hv1 σm U n w i1 i2 p (s * D + k)
        rw [j2]
      · show pv = gP σm U n p (s * D + k + 1)
        rw [q1, eall]
        rfl
      · show pt 302 i = 0
        rw [q4 i hi]
        have a := G2.2.2.1 i hi
        exact dhun_z n20 hwx hz _ _ a.1 a.2.1)
    obtain ⟨r, hr⟩ : ∃ r, iter (s_X8_hungerOfVisits_l48 (nI p)) D 0 (v6, v5, v4, tg) = r := ⟨_, rfl⟩
    rw [hr] at inner ⊢
    obtain ⟨k1, k2, k3, k4, -⟩ := inner
    have sm : (s + 1) * D = s * D + D := Nat.succ_mul s D
    rw [sm, ← Nat.add_assoc]
    exact ⟨k1, k2, k3, k4⟩)
  exact key.2.1
