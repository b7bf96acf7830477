theorem dah_0 (u w : Nat → Int32) (c : Int32) {n : Nat} (hn : n ≤ 20) (lack all : Int32) (h : Nat) : 0 ≤ (dAhead u w c n lack all h).toInt := by
  unfold dAhead
  have o1 : (1 : Int32).toInt = 1 := by decide
  have z : (0 : Int32).toInt = 0 := by decide
  exact (sm_bd (B := 1) (N := 20) (by decide) hn (fun k _ => by
    show 0 ≤ (if u k = c then (if dR lack all (w h) < dR lack all (w k) then (1 : Int32) else if dR lack all (w k) = dR lack all (w h) then (if h ≤ k then 0 else 1) else 0) else 0).toInt ∧ _ ≤ ((1 : Nat) : Int)
    (repeat' split) <;> first | (rw [o1]; omega) | (rw [z]; omega))).1
theorem dsh_0 (u w : Nat → Int32) (c : Int32) {n : Nat} (hn : n ≤ 20) (all : Int32) (h : Nat) : dShare u w c n 0 all h = 0 := by
  unfold dShare
  by_cases ha : all ≤ 0
  · rw [if_pos ha]
  · rw [if_neg ha]
    have q : ∀ x : Int32, dQ 0 all x = 0 := fun x => by
      unfold dQ
      rw [Int32.zero_mul, Int32.zero_div]
    have l : dLeft u w c n 0 all = 0 := by
      unfold dLeft
      rw [sm_0 (fun k _ => by
        show (if u k = c then dQ 0 all (w k) else 0) = 0
        rw [q]
        split <;> rfl), Int32.sub_zero]
    rw [l, q, if_pos, Int32.add_zero]
    rw [Int32.le_iff_toInt_le, show (0 : Int32).toInt = 0 by decide]
    exact dah_0 u w c hn 0 all h
/-- a day on a piece, in the reference (goesA) -/
theorem j247A {y : St} {n p : Nat} (hn : (y 6 0).toNatClampNeg = n) : (∀ f : Nat, f ≠ 43 → s_X9_goesA_j247 p y f = y f) ∧ ∀ h, s_X9_goesA_j247 p y 43 h = if h < n ∧ y 45 h = nI p then y 43 h + (if y 18 p = 0 then wM y h else 0) else y 43 h := by
  have e : s_X9_goesA_j247 p y = iter (s_X9_goesA_l250 p) n 0 y := by
    unfold s_X9_goesA_j247 s_X9_goesA_c250
    rw [hn, Nat.sub_zero]
  rw [e]
  refine it_ind (L := s_X9_goesA_l250 p) (P := fun k (q : St) => (∀ f : Nat, f ≠ 43 → q f = y f) ∧ ∀ h, q 43 h = if h < k ∧ y 45 h = nI p then y 43 h + (if y 18 p = 0 then wM y h else 0) else y 43 h) ⟨fun _ _ => rfl, fun h => by rw [if_neg (fun q => Nat.not_lt_zero h q.1)]⟩ n (fun k q hk ih => ?_)
  obtain ⟨i2, i3⟩ := ih
  have ep : s_X9_partsOfHerd q (nI k) = wM y k := ph_fr (i2 36 (by decide)) (i2 37 (by decide)) _
  have es : s_X9_goesA_l250 p k q = put q 43 k (q 43 k + (if y 45 k = nI p then (if y 18 p = 0 then wM y k else 0) else 0)) := by
    unfold s_X9_goesA_l250
    try dsimp only
    rw [i2 45 (by decide), i2 18 (by decide), ep]
    by_cases h1 : y 45 k = nI p
    · rw [if_pos h1, if_pos h1]
      by_cases h2 : y 18 p = 0
      · rw [if_pos h2, if_pos h2]
      · rw [if_neg h2, if_neg h2]
    · rw [if_neg h1, if_neg h1]
  rw [es]
  refine ⟨fun f w => (put_fr w).trans (i2 f w), fun h => ?_⟩
  show upd (q 43) k _ h = _
  by_cases hq : h = k
  · rw [hq, pk_us, i3 k, if_neg (fun z => Nat.lt_irrefl k z.1)]
    by_cases h1 : y 45 k = nI p
    · rw [if_pos h1, if_pos (show k < k + 1 ∧ y 45 k = nI p from ⟨by omega, h1⟩)]
    · rw [if_neg h1, if_neg (fun z => h1 z.2), Int32.add_zero]
  · rw [pk_un hq, i3 h]
    by_cases h1 : h < k ∧ y 45 h = nI p
    · rw [if_pos h1, if_pos (show h < k + 1 ∧ y 45 h = nI p from ⟨by omega, h1.2⟩)]
    · rw [if_neg h1, if_neg (fun z => h1 ⟨by omega, z.2⟩)]
theorem gmA {y τ1 : St} {a1 rain rate gr : Int32} {n p : Nat} (hn : (y 6 0).toNatClampNeg = n) (n20 : n ≤ 20) (p31 : p < 2 ^ 31) (hw : ∀ h, 0 ≤ (wM y h).toInt ∧ (wM y h).toInt ≤ 4500) (hg : 0 ≤ (y 13 p).toInt ∧ (y 13 p).toInt ≤ (y 14 p).toInt) (hf : (y 14 p).toInt ≤ 100000) (hrain : τ1 23 a1.toNatClampNeg = rain) (hrate : τ1 22 ((10 : Int32) * (τ1 23 a1.toNatClampNeg) + (τ1 24 a1.toNatClampNeg)).toNatClampNeg = rate) (hr : 0 ≤ rate.toInt ∧ rate.toInt ≤ 1000) (h43 : ∀ h, h < n → y 45 h = nI p → y 43 h = 0) (hgr : dGrown (dAll (y 45) (wM y) (nI p) n) (y 13 p) (y 14 p) rain rate = gr) : s_X9_goesA_l56 a1 τ1 p y 13 = upd (y 13) p (gr - dEat (dAll (y 45) (wM y) (nI p) n) gr) ∧ s_X9_goesA_l56 a1 τ1 p y 46 = upd (y 46) p (y 46 p + dEat (dAll (y 45) (wM y) (nI p) n) gr) ∧ (∀ h, s_X9_goesA_l56 a1 τ1 p y 43 h = if h < n ∧ y 45 h = nI p then dHun (y 45) (wM y) (nI p) n (y 18 p) gr h else y 43 h) := by
  obtain ⟨b1, b2, b3⟩ := dall_bd (u := y 45) (w := wM y) (c := nI p) n20 (fun h _ => hw h)
  have z : (0 : Int32).toInt = 0 := by decide
  have ea : iter (s_X9_goesA_l71 p y) n 0 (0 : Int32) = dAll (y 45) (wM y) (nI p) n := by
    rw [it_add (f := fun k => if y 45 k = nI p then wM y k else 0) (fun k v => ?_), Int32.zero_add]
    · rfl
    · unfold s_X9_goesA_l71
      try dsimp only
      by_cases h1 : y 45 k = nI p
      · rw [if_pos h1, if_pos h1]
        rfl
      · rw [if_neg h1, if_neg h1]
  have e0 : s_X9_goesA_l56 a1 τ1 p y = s_X9_goesA_c71 a1 τ1 p y (dAll (y 45) (wM y) (nI p) n) := by
    unfold s_X9_goesA_l56
    try dsimp only
    rw [hn, Nat.sub_zero, ea]
  rw [e0]
  obtain ⟨all, hall⟩ : ∃ a, dAll (y 45) (wM y) (nI p) n = a := ⟨_, rfl⟩
  have gb := grown_b (rain := rain) hg hf hr (show 0 ≤ (dAll (y 45) (wM y) (nI p) n).toInt ∧ (dAll (y 45) (wM y) (nI p) n).toInt ≤ 90000 from ⟨b1, b2⟩)
  rw [hgr] at gb
  have tb := tread_b (rain := rain) hg (show 0 ≤ (dAll (y 45) (wM y) (nI p) n).toInt ∧ (dAll (y 45) (wM y) (nI p) n).toInt ≤ 90000 from ⟨b1, b2⟩)
  unfold dGrown at hgr
  have eHun : ∀ h, dHun (y 45) (wM y) (nI p) n (y 18 p) gr h = dShare (y 45) (wM y) (nI p) n (all - dEat all gr) all h + (if y 18 p = 0 then wM y h else 0) := fun h => by
    unfold dHun
    rw [hall]
  rw [hall] at b1 b2 hgr tb ⊢
  obtain ⟨T, hT⟩ : ∃ t, (if rain < 8 then y 13 p else (if 0 < (y 13 p - (all / 100)) then (y 13 p - (all / 100)) else 0)) = t := ⟨_, rfl⟩
  rw [hT] at hgr tb
  -- trodden
  obtain ⟨y1, e1, f1, g1⟩ : ∃ y1 : St, s_X9_goesA_c71 a1 τ1 p y all = s_X9_goesA_j140 a1 τ1 p all y1 ∧ (∀ f : Nat, f ≠ 13 → y1 f = y f) ∧ y1 13 = upd (y 13) p T := by
    unfold s_X9_goesA_c71
    try dsimp only
    rw [hrain]
    by_cases c1 : rain < 8
    · rw [if_pos c1] at hT ⊢
      exact ⟨y, rfl, fun _ _ => rfl, (upd_id hT).symm⟩
    · rw [if_neg c1] at hT ⊢
      by_cases c2 : all ≤ 0
      · rw [if_pos c2]
        refine ⟨y, rfl, fun _ _ => rfl, (upd_id ?_).symm⟩
        rw [Int32.le_iff_toInt_le, z] at c2
        have a0 : all = 0 := by rw [← Int32.toInt_inj, z]; omega
        rw [← hT, a0, Int32.zero_div, Int32.sub_zero]
        by_cases c3 : 0 < y 13 p
        · rw [if_pos c3]
        · rw [if_neg c3]
          rw [Int32.lt_iff_toInt_lt, z] at c3
          rw [← Int32.toInt_inj, z]
          omega
      · rw [if_neg c2, hT]
        exact ⟨put y 13 p T, rfl, fun f q => put_fr q, rfl⟩
  rw [e1]
  -- grown
  have gT : y1 13 p = T := by rw [g1, pk_us]
  have g14 : y1 14 p = y 14 p := congrFun (f1 14 (by decide)) p
  obtain ⟨y2, e2, f2, g2⟩ : ∃ y2 : St, s_X9_goesA_j140 a1 τ1 p all y1 = s_X9_goesA_j196 p all y2 ∧ (∀ f : Nat, f ≠ 13 → y2 f = y f) ∧ y2 13 = upd (y 13) p gr := by
    have ge := grow_eq (t := T) (full := y 14 p) (rate := rate) tb hf hr
    rw [hgr] at ge
    unfold s_X9_goesA_j140
    rw [gT, g14, hrate]
    by_cases c1 : y 14 p ≤ T
    · rw [if_pos c1] at ge ⊢
      exact ⟨y1, rfl, f1, by rw [g1, ge]⟩
    · rw [if_neg c1] at ge ⊢
      rw [ge]
      refine ⟨put y1 13 p gr, rfl, fun f q => (put_fr q).trans (f1 f q), ?_⟩
      show upd (y1 13) p gr = _
      rw [g1, uu]
  rw [e2]
  -- eaten
  have gG : y2 13 p = gr := by rw [g2, pk_us]
  obtain ⟨et, het⟩ : ∃ e, dEat all gr = e := ⟨_, rfl⟩
  have het2 : (if all < gr then all else gr) = et := het
  have etb : 0 ≤ et.toInt ∧ et.toInt ≤ all.toInt := by
    rw [← het2]
    by_cases q : all < gr
    · rw [if_pos q]
      omega
    · rw [if_neg q]
      rw [Int32.lt_iff_toInt_lt] at q
      omega
  obtain ⟨y3, hy3⟩ : ∃ s, put (put y2 13 p (gr - et)) 46 p (y2 46 p + et) = s := ⟨_, rfl⟩
  have f3 : ∀ f : Nat, f ≠ 13 → f ≠ 46 → y3 f = y f := fun f a b => by
    rw [← hy3]
    exact (put_fr b).trans ((put_fr a).trans (f2 f a))
  have e3 : s_X9_goesA_j196 p all y2 = if all ≤ et then s_X9_goesA_j247 p y3 else s_X9_goesA_j247 p (s_X9_shares y3 (nI p) all (all - et)) := by
    unfold s_X9_goesA_j196
    rw [gG]
    simp only [het2, hy3]
  rw [e3, het]
  have lb : (all - et).toInt = all.toInt - et.toInt := sub_ti (by omega) (by omega)
  have w3 : wM y3 = wM y := funext (fun h => ph_fr (f3 36 (by decide) (by decide)) (f3 37 (by decide) (by decide)) _)
  obtain ⟨y4, e4, f4, g4⟩ : ∃ y4 : St, (if all ≤ et then s_X9_goesA_j247 p y3 else s_X9_goesA_j247 p (s_X9_shares y3 (nI p) all (all - et))) = s_X9_goesA_j247 p y4 ∧ (∀ f : Nat, f ≠ 43 → y4 f = y3 f) ∧ ∀ h, y4 43 h = if h < n ∧ y 45 h = nI p then dShare (y 45) (wM y) (nI p) n (all - et) all h else y 43 h := by
    by_cases c1 : all ≤ et
    · rw [if_pos c1]
      refine ⟨y3, rfl, fun _ _ => rfl, fun h => ?_⟩
      rw [Int32.le_iff_toInt_le] at c1
      have e0 : all - et = 0 := by rw [← Int32.toInt_inj, lb, z]; omega
      rw [f3 43 (by decide) (by decide), e0, dsh_0 _ _ _ n20]
      by_cases h1 : h < n ∧ y 45 h = nI p
      · rw [if_pos h1]
        exact h43 h h1.1 h1.2
      · rw [if_neg h1]
    · rw [if_neg c1]
      rw [Int32.le_iff_toInt_le] at c1
      refine ⟨s_X9_shares y3 (nI p) all (all - et), rfl, fun f q => fr_s_X9_shares y3 _ _ _ q, fun h => ?_⟩
      rw [shs_eq (n := n) (by rw [f3 6 (by decide) (by decide)]; exact hn) n20 (by rw [w3]; exact hw) (by rw [lb]; omega) (by omega) h, w3, f3 45 (by decide) (by decide), f3 43 (by decide) (by decide)]
      have na : ¬ all ≤ 0 := by
        rw [Int32.le_iff_toInt_le, z]
        omega
      unfold dShare
      rw [if_neg na]
  rw [e4]
  have f43 : ∀ f : Nat, f ≠ 43 → f ≠ 13 → f ≠ 46 → y4 f = y f := fun f a b d => (f4 f a).trans (f3 f b d)
  obtain ⟨j1, j2⟩ := j247A (y := y4) (n := n) (p := p) (by rw [f43 6 (by decide) (by decide) (by decide)]; exact hn)
  have w4 : wM y4 = wM y := funext (fun h => ph_fr (f43 36 (by decide) (by decide) (by decide)) (f43 37 (by decide) (by decide) (by decide)) _)
  refine ⟨?_, ?_, fun h => ?_⟩
  · rw [j1 13 (by decide), f4 13 (by decide), ← hy3]
    show upd (y2 13) p (gr - et) = _
    rw [g2, uu]
  · rw [j1 46 (by decide), f4 46 (by decide), ← hy3]
    show upd (y2 46) p (y2 46 p + et) = _
    rw [f2 46 (by decide)]
  · rw [j2 h, g4 h, w4, f43 45 (by decide) (by decide) (by decide), f43 18 (by decide) (by decide) (by decide), eHun h, het]
    by_cases h1 : h < n ∧ y 45 h = nI p
    · rw [if_pos h1, if_pos h1, if_pos h1]
    · rw [if_neg h1, if_neg h1, if_neg h1]
