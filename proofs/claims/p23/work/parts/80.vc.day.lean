/-- a day on a piece, in the reference (goesB) -/
theorem j247B {y : St} {n p : Nat} (hn : (y 6 0).toNatClampNeg = n) : (∀ f : Nat, f ≠ 43 → s_X9_goesB_j247 p y f = y f) ∧ ∀ h, s_X9_goesB_j247 p y 43 h = if h < n ∧ y 45 h = nI p then y 43 h + (if y 18 p = 0 then wM y h else 0) else y 43 h := by
  have e : s_X9_goesB_j247 p y = iter (s_X9_goesB_l250 p) n 0 y := by
    unfold s_X9_goesB_j247 s_X9_goesB_c250
    rw [hn, Nat.sub_zero]
  rw [e]
  refine it_ind (L := s_X9_goesB_l250 p) (P := fun k (q : St) => (∀ f : Nat, f ≠ 43 → q f = y f) ∧ ∀ h, q 43 h = if h < k ∧ y 45 h = nI p then y 43 h + (if y 18 p = 0 then wM y h else 0) else y 43 h) ⟨fun _ _ => rfl, fun h => by rw [if_neg (fun q => Nat.not_lt_zero h q.1)]⟩ n (fun k q hk ih => ?_)
  obtain ⟨i2, i3⟩ := ih
  have ep : s_X9_partsOfHerd q (nI k) = wM y k := ph_fr (i2 36 (by decide)) (i2 37 (by decide)) _
  have es : s_X9_goesB_l250 p k q = put q 43 k (q 43 k + (if y 45 k = nI p then (if y 18 p = 0 then wM y k else 0) else 0)) := by
    unfold s_X9_goesB_l250
    try dsimp only
    rw [i2 45 (by decide), i2 18 (by decide), ep]
    by_cases h1 : y 45 k = nI p
    · rw [if_pos h1, if_pos h1]
      by_cases h2 : y 18 p = 0
      · rw [if_pos h2, if_pos h2]
      · rw [if_neg h2, if_neg h2]
    · rw [if_neg h1, if_neg h1]
  rw [es]
  refine ⟨fun f w => (put_fr w).trans (i2 f w), fun h => ?_⟩
  show upd (q 43) k _ h = _
  by_cases hq : h = k
  · rw [hq, pk_us, i3 k, if_neg (fun z => Nat.lt_irrefl k z.1)]
    by_cases h1 : y 45 k = nI p
    · rw [if_pos h1, if_pos (show k < k + 1 ∧ y 45 k = nI p from ⟨by omega, h1⟩)]
    · rw [if_neg h1, if_neg (fun z => h1 z.2), Int32.add_zero]
  · rw [pk_un hq, i3 h]
    by_cases h1 : h < k ∧ y 45 h = nI p
    · rw [if_pos h1, if_pos (show h < k + 1 ∧ y 45 h = nI p from ⟨by omega, h1.2⟩)]
    · rw [if_neg h1, if_neg (fun z => h1 ⟨by omega, z.2⟩)]
theorem gmB {y τ1 : St} {a1 rain rate gr : Int32} {n p : Nat} (hn : (y 6 0).toNatClampNeg = n) (n20 : n ≤ 20) (p31 : p < 2 ^ 31) (hw : ∀ h, 0 ≤ (wM y h).toInt ∧ (wM y h).toInt ≤ 4500) (hg : 0 ≤ (y 44 p).toInt ∧ (y 44 p).toInt ≤ (y 14 p).toInt) (hf : (y 14 p).toInt ≤ 100000) (hrain : τ1 23 a1.toNatClampNeg = rain) (hrate : τ1 22 ((10 : Int32) * (τ1 23 a1.toNatClampNeg) + (τ1 24 a1.toNatClampNeg)).toNatClampNeg = rate) (hr : 0 ≤ rate.toInt ∧ rate.toInt ≤ 1000) (h43 : ∀ h, h < n → y 45 h = nI p → y 43 h = 0) (hgr : dGrown (dAll (y 45) (wM y) (nI p) n) (y 44 p) (y 14 p) rain rate = gr) : s_X9_goesB_l56 a1 τ1 p y 44 = upd (y 44) p (gr - dEat (dAll (y 45) (wM y) (nI p) n) gr) ∧ s_X9_goesB_l56 a1 τ1 p y 46 = upd (y 46) p (y 46 p + dEat (dAll (y 45) (wM y) (nI p) n) gr) ∧ (∀ h, s_X9_goesB_l56 a1 τ1 p y 43 h = if h < n ∧ y 45 h = nI p then dHun (y 45) (wM y) (nI p) n (y 18 p) gr h else y 43 h) := by
  obtain ⟨b1, b2, b3⟩ := dall_bd (u := y 45) (w := wM y) (c := nI p) n20 (fun h _ => hw h)
  have z : (0 : Int32).toInt = 0 := by decide
  have ea : iter (s_X9_goesB_l71 p y) n 0 (0 : Int32) = dAll (y 45) (wM y) (nI p) n := by
    rw [it_add (f := fun k => if y 45 k = nI p then wM y k else 0) (fun k v => ?_), Int32.zero_add]
    · rfl
    · unfold s_X9_goesB_l71
      try dsimp only
      by_cases h1 : y 45 k = nI p
      · rw [if_pos h1, if_pos h1]
        rfl
      · rw [if_neg h1, if_neg h1]
  have e0 : s_X9_goesB_l56 a1 τ1 p y = s_X9_goesB_c71 a1 τ1 p y (dAll (y 45) (wM y) (nI p) n) := by
    unfold s_X9_goesB_l56
    try dsimp only
    rw [hn, Nat.sub_zero, ea]
  rw [e0]
  obtain ⟨all, hall⟩ : ∃ a, dAll (y 45) (wM y) (nI p) n = a := ⟨_, rfl⟩
  have gb := grown_b (rain := rain) hg hf hr (show 0 ≤ (dAll (y 45) (wM y) (nI p) n).toInt ∧ (dAll (y 45) (wM y) (nI p) n).toInt ≤ 90000 from ⟨b1, b2⟩)
  rw [hgr] at gb
  have tb := tread_b (rain := rain) hg (show 0 ≤ (dAll (y 45) (wM y) (nI p) n).toInt ∧ (dAll (y 45) (wM y) (nI p) n).toInt ≤ 90000 from ⟨b1, b2⟩)
  unfold dGrown at hgr
  have eHun : ∀ h, dHun (y 45) (wM y) (nI p) n (y 18 p) gr h = dShare (y 45) (wM y) (nI p) n (all - dEat all gr) all h + (if y 18 p = 0 then wM y h else 0) := fun h => by
    unfold dHun
    rw [hall]
  rw [hall] at b1 b2 hgr tb ⊢
  obtain ⟨T, hT⟩ : ∃ t, (if rain < 8 then y 44 p else (if 0 < (y 44 p - (all / 100)) then (y 44 p - (all / 100)) else 0)) = t := ⟨_, rfl⟩
  rw [hT] at hgr tb
  -- trodden
  obtain ⟨y1, e1, f1, g1⟩ : ∃ y1 : St, s_X9_goesB_c71 a1 τ1 p y all = s_X9_goesB_j140 a1 τ1 p all y1 ∧ (∀ f : Nat, f ≠ 44 → y1 f = y f) ∧ y1 44 = upd (y 44) p T := by
    unfold s_X9_goesB_c71
    try dsimp only
    rw [hrain]
    by_cases c1 : rain < 8
    · rw [if_pos c1] at hT ⊢
      exact ⟨y, rfl, fun _ _ => rfl, (upd_id hT).symm⟩
    · rw [if_neg c1] at hT ⊢
      by_cases c2 : all ≤ 0
      · rw [if_pos c2]
        refine ⟨y, rfl, fun _ _ => rfl, (upd_id ?_).symm⟩
        rw [Int32.le_iff_toInt_le, z] at c2
        have a0 : all = 0 := by rw [← Int32.toInt_inj, z]; omega
        rw [← hT, a0, Int32.zero_div, Int32.sub_zero]
        by_cases c3 : 0 < y 44 p
        · rw [if_pos c3]
        · rw [if_neg c3]
          rw [Int32.lt_iff_toInt_lt, z] at c3
          rw [← Int32.toInt_inj, z]
          omega
      · rw [if_neg c2, hT]
        exact ⟨put y 44 p T, rfl, fun f q => put_fr q, rfl⟩
  rw [e1]
  -- grown
  have gT : y1 44 p = T := by rw [g1, pk_us]
  have g14 : y1 14 p = y 14 p := congrFun (f1 14 (by decide)) p
  obtain ⟨y2, e2, f2, g2⟩ : ∃ y2 : St, s_X9_goesB_j140 a1 τ1 p all y1 = s_X9_goesB_j196 p all y2 ∧ (∀ f : Nat, f ≠ 44 → y2 f = y f) ∧ y2 44 = upd (y 44) p gr := by
    have ge := grow_eq (t := T) (full := y 14 p) (rate := rate) tb hf hr
    rw [hgr] at ge
    unfold s_X9_goesB_j140
    rw [gT, g14, hrate]
    by_cases c1 : y 14 p ≤ T
    · rw [if_pos c1] at ge ⊢
      exact ⟨y1, rfl, f1, by rw [g1, ge]⟩
    · rw [if_neg c1] at ge ⊢
      rw [ge]
      refine ⟨put y1 44 p gr, rfl, fun f q => (put_fr q).trans (f1 f q), ?_⟩
      show upd (y1 44) p gr = _
      rw [g1, uu]
  rw [e2]
  -- eaten
  have gG : y2 44 p = gr := by rw [g2, pk_us]
  obtain ⟨et, het⟩ : ∃ e, dEat all gr = e := ⟨_, rfl⟩
  have het2 : (if all < gr then all else gr) = et := het
  have etb : 0 ≤ et.toInt ∧ et.toInt ≤ all.toInt := by
    rw [← het2]
    by_cases q : all < gr
    · rw [if_pos q]
      omega
    · rw [if_neg q]
      rw [Int32.lt_iff_toInt_lt] at q
      omega
  obtain ⟨y3, hy3⟩ : ∃ s, put (put y2 44 p (gr - et)) 46 p (y2 46 p + et) = s := ⟨_, rfl⟩
  have f3 : ∀ f : Nat, f ≠ 44 → f ≠ 46 → y3 f = y f := fun f a b => by
    rw [← hy3]
    exact (put_fr b).trans ((put_fr a).trans (f2 f a))
  have e3 : s_X9_goesB_j196 p all y2 = if all ≤ et then s_X9_goesB_j247 p y3 else s_X9_goesB_j247 p (s_X9_shares y3 (nI p) all (all - et)) := by
    unfold s_X9_goesB_j196
    rw [gG]
    simp only [het2, hy3]
  rw [e3, het]
  have lb : (all - et).toInt = all.toInt - et.toInt := sub_ti (by omega) (by omega)
  have w3 : wM y3 = wM y := funext (fun h => ph_fr (f3 36 (by decide) (by decide)) (f3 37 (by decide) (by decide)) _)
  obtain ⟨y4, e4, f4, g4⟩ : ∃ y4 : St, (if all ≤ et then s_X9_goesB_j247 p y3 else s_X9_goesB_j247 p (s_X9_shares y3 (nI p) all (all - et))) = s_X9_goesB_j247 p y4 ∧ (∀ f : Nat, f ≠ 43 → y4 f = y3 f) ∧ ∀ h, y4 43 h = if h < n ∧ y 45 h = nI p then dShare (y 45) (wM y) (nI p) n (all - et) all h else y 43 h := by
    by_cases c1 : all ≤ et
    · rw [if_pos c1]
      refine ⟨y3, rfl, fun _ _ => rfl, fun h => ?_⟩
      rw [Int32.le_iff_toInt_le] at c1
      have e0 : all - et = 0 := by rw [← Int32.toInt_inj, lb, z]; omega
      rw [f3 43 (by decide) (by decide), e0, dsh_0 _ _ _ n20]
      by_cases h1 : h < n ∧ y 45 h = nI p
      · rw [if_pos h1]
        exact h43 h h1.1 h1.2
      · rw [if_neg h1]
    · rw [if_neg c1]
      rw [Int32.le_iff_toInt_le] at c1
      refine ⟨s_X9_shares y3 (nI p) all (all - et), rfl, fun f q => fr_s_X9_shares y3 _ _ _ q, fun h => ?_⟩
      rw [shs_eq (n := n) (by rw [f3 6 (by decide) (by decide)]; exact hn) n20 (by rw [w3]; exact hw) (by rw [lb]; omega) (by omega) h, w3, f3 45 (by decide) (by decide), f3 43 (by decide) (by decide)]
      have na : ¬ all ≤ 0 := by
        rw [Int32.le_iff_toInt_le, z]
        omega
      unfold dShare
      rw [if_neg na]
  rw [e4]
  have f43 : ∀ f : Nat, f ≠ 43 → f ≠ 44 → f ≠ 46 → y4 f = y f := fun f a b d => (f4 f a).trans (f3 f b d)
  obtain ⟨j1, j2⟩ := j247B (y := y4) (n := n) (p := p) (by rw [f43 6 (by decide) (by decide) (by decide)]; exact hn)
  have w4 : wM y4 = wM y := funext (fun h => ph_fr (f43 36 (by decide) (by decide) (by decide)) (f43 37 (by decide) (by decide) (by decide)) _)
  refine ⟨?_, ?_, fun h => ?_⟩
  · rw [j1 44 (by decide), f4 44 (by decide), ← hy3]
    show upd (y2 44) p (gr - et) = _
    rw [g2, uu]
  · rw [j1 46 (by decide), f4 46 (by decide), ← hy3]
    show upd (y2 46) p (y2 46 p + et) = _
    rw [f2 46 (by decide)]
  · rw [j2 h, g4 h, w4, f43 45 (by decide) (by decide) (by decide), f43 18 (by decide) (by decide) (by decide), eHun h, het]
    by_cases h1 : h < n ∧ y 45 h = nI p
    · rw [if_pos h1, if_pos h1, if_pos h1]
    · rw [if_neg h1, if_neg h1, if_neg h1]
/-! turns: the days of a plan, piece by piece -/
def rnD (σ : St) (d : Nat) : Int32 := σ 23 ((σ 1 0).toNatClampNeg + 1 + d)
def rtD (σ : St) (d : Nat) : Int32 := σ 22 ((10 : Int32) * σ 23 ((σ 1 0).toNatClampNeg + 1 + d) + σ 24 ((σ 1 0).toNatClampNeg + 1 + d)).toNatClampNeg
def gP (σ : St) (U : Nat → Nat → Int32) (n p : Nat) : Nat → Int32
  | 0 => σ 13 p
  | d + 1 => dGrown (dAll (U d) (wM σ) (nI p) n) (gP σ U n p d) (σ 14 p) (rnD σ d) (rtD σ d) - dEat (dAll (U d) (wM σ) (nI p) n) (dGrown (dAll (U d) (wM σ) (nI p) n) (gP σ U n p d) (σ 14 p) (rnD σ d) (rtD σ d))
def grP (σ : St) (U : Nat → Nat → Int32) (n p d : Nat) : Int32 := dGrown (dAll (U d) (wM σ) (nI p) n) (gP σ U n p d) (σ 14 p) (rnD σ d) (rtD σ d)
def hP (σ : St) (U : Nat → Nat → Int32) (n p d h : Nat) : Int32 := dHun (U d) (wM σ) (nI p) n (σ 18 p) (grP σ U n p d) h
def hT (σ : St) (U : Nat → Nat → Int32) (n d h : Nat) : Int32 := Sm (fun p => if U d h = nI p then hP σ U n p d h else 0) (σ 2 0).toNatClampNeg
theorem eat_b {all gr : Int32} (ha : 0 ≤ all.toInt) (hg : 0 ≤ gr.toInt) : 0 ≤ (gr - dEat all gr).toInt ∧ (gr - dEat all gr).toInt ≤ gr.toInt := by
  have := gr.toInt_lt
  unfold dEat
  by_cases c : all < gr
  · rw [if_pos c]
    rw [Int32.lt_iff_toInt_lt] at c
    rw [sub_ti (by omega) (by omega)]
    omega
  · rw [if_neg c, sub_ti (by omega) (by omega)]
    omega
theorem gp_b {σ : St} (K : KC σ) (R22 : ∀ i : Nat, 0 ≤ (σ 22 i).toInt ∧ (σ 22 i).toInt ≤ 1000) (hw : ∀ h, 0 ≤ (wM σ h).toInt ∧ (wM σ h).toInt ≤ 4500) (U : Nat → Nat → Int32) {n : Nat} (n20 : n ≤ 20) (p : Nat) : ∀ d : Nat, 0 ≤ (gP σ U n p d).toInt ∧ (gP σ U n p d).toInt ≤ (σ 14 p).toInt := by
  intro d
  induction d with
  | zero => exact ⟨(K p).1.1, (K p).1.2.1⟩
  | succ d ih =>
    have db := dall_bd (u := U d) (w := wM σ) (c := nI p) n20 (fun h _ => hw h)
    have gb := grown_b (all := dAll (U d) (wM σ) (nI p) n) (rain := rnD σ d) ih (K p).1.2.2 (R22 ((10 : Int32) * σ 23 ((σ 1 0).toNatClampNeg + 1 + d) + σ 24 ((σ 1 0).toNatClampNeg + 1 + d)).toNatClampNeg) ⟨db.1, db.2.1⟩
    have eb := eat_b db.1 gb.1
    show 0 ≤ (dGrown (dAll (U d) (wM σ) (nI p) n) (gP σ U n p d) (σ 14 p) (rnD σ d) (rtD σ d) - dEat (dAll (U d) (wM σ) (nI p) n) (dGrown (dAll (U d) (wM σ) (nI p) n) (gP σ U n p d) (σ 14 p) (rnD σ d) (rtD σ d))).toInt ∧ _ ≤ _
    exact ⟨eb.1, Int.le_trans eb.2 gb.2⟩
theorem grp_b {σ : St} (K : KC σ) (R22 : ∀ i : Nat, 0 ≤ (σ 22 i).toInt ∧ (σ 22 i).toInt ≤ 1000) (hw : ∀ h, 0 ≤ (wM σ h).toInt ∧ (wM σ h).toInt ≤ 4500) (U : Nat → Nat → Int32) {n : Nat} (n20 : n ≤ 20) (p d : Nat) : 0 ≤ (grP σ U n p d).toInt := by
  have db := dall_bd (u := U d) (w := wM σ) (c := nI p) n20 (fun h _ => hw h)
  exact (grown_b (all := dAll (U d) (wM σ) (nI p) n) (rain := rnD σ d) (gp_b K R22 hw U n20 p d) (K p).1.2.2 (R22 ((10 : Int32) * σ 23 ((σ 1 0).toNatClampNeg + 1 + d) + σ 24 ((σ 1 0).toNatClampNeg + 1 + d)).toNatClampNeg) ⟨db.1, db.2.1⟩).1
theorem z43B (σ : St) : ∀ m : Nat, (∀ f : Nat, f ≠ 43 → iter s_X9_goesB_l3 m 0 σ f = σ f) ∧ ∀ h : Nat, h < m → iter s_X9_goesB_l3 m 0 σ 43 h = 0 := by
  intro m
  refine it_ind (L := s_X9_goesB_l3) (P := fun k (t : St) => (∀ f : Nat, f ≠ 43 → t f = σ f) ∧ ∀ h : Nat, h < k → t 43 h = 0) ⟨fun _ _ => rfl, fun h q => absurd q (Nat.not_lt_zero h)⟩ m (fun k t _ ih => ?_)
  unfold s_X9_goesB_l3
  try dsimp only
  refine ⟨fun f q => (put_fr q).trans (ih.1 f q), fun h hh => ?_⟩
  show upd (t 43) k 0 h = 0
  by_cases hq : h = k
  · rw [hq, pk_us]
  · rw [pk_un hq]
    exact ih.2 h (by omega)
/-- one day of a plan, in the reference -/
theorem gB_day2 {σ y : St} {U : Nat → Nat → Int32} {n d : Nat} {a1 : Int32} (hn : (σ 6 0).toNatClampNeg = n) (n20 : n ≤ 20) (hw : ∀ h, 0 ≤ (wM σ h).toInt ∧ (wM σ h).toInt ≤ 4500) (K : KC σ) (R22 : ∀ i : Nat, 0 ≤ (σ 22 i).toInt ∧ (σ 22 i).toInt ≤ 1000) (hd : a1.toNatClampNeg = (σ 1 0).toNatClampNeg + 1 + d) (hy : ∀ f : Nat, f ≠ 43 → f ≠ 44 → f ≠ 45 → f ≠ 46 → f ≠ 47 → f ≠ 48 → y f = σ f) (h45 : ∀ h, h < n → y 45 h = U d h) (h44 : ∀ p, p < (σ 2 0).toNatClampNeg → y 44 p = gP σ U n p d) : (∀ f : Nat, f ≠ 43 → f ≠ 44 → f ≠ 46 → s_X9_goesB y a1 f = y f) ∧ (∀ p, p < (σ 2 0).toNatClampNeg → s_X9_goesB y a1 44 p = gP σ U n p (d + 1)) ∧ (∀ h, h < n → s_X9_goesB y a1 43 h = hT σ U n d h) := by
  have e6 : (y 6 0).toNatClampNeg = n := by rw [hy 6 (by decide) (by decide) (by decide) (by decide) (by decide) (by decide), hn]
  obtain ⟨tz, htz⟩ : ∃ t, iter s_X9_goesB_l3 n 0 y = t := ⟨_, rfl⟩
  have Z := z43B y n
  rw [htz] at Z
  have z2 : (tz 2 0).toNatClampNeg = (σ 2 0).toNatClampNeg := by rw [Z.1 2 (by decide), hy 2 (by decide) (by decide) (by decide) (by decide) (by decide) (by decide)]
  have eg : s_X9_goesB y a1 = iter (s_X9_goesB_l56 a1 tz) (σ 2 0).toNatClampNeg 0 tz := by
    unfold s_X9_goesB
    rw [e6, Nat.sub_zero, htz]
    unfold s_X9_goesB_c3 s_X9_goesB_c56
    try dsimp only
    rw [z2, Nat.sub_zero]
  rw [eg]
  have T : ∀ f : Nat, f ≠ 43 → f ≠ 44 → f ≠ 45 → f ≠ 46 → f ≠ 47 → f ≠ 48 → tz f = σ f := fun f a b c e g h => (Z.1 f a).trans (hy f a b c e g h)
  have key := it_ind (L := s_X9_goesB_l56 a1 tz) (P := fun p (t : St) => (∀ f : Nat, f ≠ 43 → f ≠ 44 → f ≠ 46 → t f = tz f) ∧ (∀ q, q < p → t 44 q = gP σ U n q (d + 1)) ∧ (∀ q, p ≤ q → t 44 q = tz 44 q) ∧ (∀ h, h < n → t 43 h = Sm (fun q => if U d h = nI q then hP σ U n q d h else 0) p)) (s := tz) ⟨fun _ _ _ _ => rfl, fun q hq => absurd hq (Nat.not_lt_zero q), fun _ _ => rfl, fun h hh => Z.2 h hh⟩ (σ 2 0).toNatClampNeg (fun p t hp ih => by
    obtain ⟨i1, i2, i3, i4⟩ := ih
    have p31 : p < 2 ^ 31 := Nat.lt_trans hp (tn_lt _)
    have F : ∀ f : Nat, f ≠ 43 → f ≠ 44 → f ≠ 45 → f ≠ 46 → f ≠ 47 → f ≠ 48 → t f = σ f := fun f a b c e g h => (i1 f a b e).trans (T f a b c e g h)
    have u45 : ∀ h, h < n → t 45 h = U d h := fun h hh => by
      rw [i1 45 (by decide) (by decide) (by decide), Z.1 45 (by decide)]
      exact h45 h hh
    have wt : wM t = wM σ := funext (fun h => ph_fr (F 36 (by decide) (by decide) (by decide) (by decide) (by decide) (by decide)) (F 37 (by decide) (by decide) (by decide) (by decide) (by decide) (by decide)) _)
    have g44 : t 44 p = gP σ U n p d := by
      rw [i3 p (Nat.le_refl p), Z.1 44 (by decide)]
      exact h44 p hp
    have t14 : t 14 = σ 14 := F 14 (by decide) (by decide) (by decide) (by decide) (by decide) (by decide)
    have t18 : t 18 = σ 18 := F 18 (by decide) (by decide) (by decide) (by decide) (by decide) (by decide)
    have eall : dAll (t 45) (wM t) (nI p) n = dAll (U d) (wM σ) (nI p) n := by
      rw [wt]
      exact dall_x u45 (fun _ _ => rfl)
    have b := gp_b K R22 hw U n20 p d
    obtain ⟨w1, w2, w3⟩ := gmB (y := t) (τ1 := tz) (a1 := a1) (rain := rnD σ d) (rate := rtD σ d) (gr := grP σ U n p d) (n := n) (p := p) (by rw [F 6 (by decide) (by decide) (by decide) (by decide) (by decide) (by decide)]; exact hn) n20 p31 (by rw [wt]; exact hw) (by rw [g44, t14]; exact b) (by rw [t14]; exact (K p).1.2.2) (by rw [T 23 (by decide) (by decide) (by decide) (by decide) (by decide) (by decide), hd]; rfl) (by rw [T 22 (by decide) (by decide) (by decide) (by decide) (by decide) (by decide), T 23 (by decide) (by decide) (by decide) (by decide) (by decide) (by decide), T 24 (by decide) (by decide) (by decide) (by decide) (by decide) (by decide), hd]; rfl) (R22 _) (fun h hh q => by
      rw [u45 h hh] at q
      rw [i4 h hh]
      refine sm_0 (fun k hk => ?_)
      rw [if_neg]
      intro e
      have := nI_inj (by omega) p31 (e.symm.trans q)
      omega) (by rw [eall, g44, t14]; rfl)
    rw [eall] at w1
    refine ⟨fun f a b c => (fr_s_X9_goesB_l56 a1 tz p t a b c).trans (i1 f a b c), fun q hq => ?_, fun q hq => ?_, fun h hh => ?_⟩
    · rw [w1]
      by_cases e : q = p
      · rw [e, pk_us]
        rfl
      · rw [pk_un e]
        exact i2 q (by omega)
    · rw [w1, pk_un (show q ≠ p by omega)]
      exact i3 q (by omega)
    · rw [w3 h, u45 h hh]
      show _ = Sm (fun q => if U d h = nI q then hP σ U n q d h else 0) p + (if U d h = nI p then hP σ U n p d h else 0)
      by_cases c : U d h = nI p
      · rw [if_pos ⟨hh, c⟩, if_pos c]
        have z : Sm (fun q => if U d h = nI q then hP σ U n q d h else 0) p = 0 := sm_0 (fun k hk => by
          rw [if_neg]
          intro e
          have := nI_inj (by omega) p31 (e.symm.trans c)
          omega)
        rw [z, Int32.zero_add, wt, t18]
        exact dhun_x u45 (fun _ _ => rfl) _ _ hh
      · rw [if_neg (fun z => c z.2), if_neg c, Int32.add_zero]
        exact i4 h hh)
  obtain ⟨k1, k2, k3, k4⟩ := key
  exact ⟨fun f a b c => (k1 f a b c).trans (Z.1 f a), fun p hp => k2 p hp, fun h hh => k4 h hh⟩
