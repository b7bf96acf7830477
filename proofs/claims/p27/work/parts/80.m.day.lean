theorem pd {u w : Nat → Int32} {c : Int32} {n : Nat} {τ : St} {s : Nat} {num : Nat → Nat} (G : GS u w c n τ s num) (hn : n ≤ 20) (hw : ∀ h, h < n → 0 ≤ (w h).toInt ∧ (w h).toInt ≤ 4500) (hz : dAll u w c n ≤ 0 → ∀ i, i < s → τ 302 i = 0) (g : Nat) (a1 a2 a3 : Int32) (hg : 0 ≤ (dGrown (dAll u w c n) a1 (τ 400 g) a2 a3).toInt) : (s_X3_passDay τ g a1 a2 a3).1 = dGrown (dAll u w c n) a1 (τ 400 g) a2 a3 - dEat (dAll u w c n) (dGrown (dAll u w c n) a1 (τ 400 g) a2 a3) ∧ (s_X3_passDay τ g a1 a2 a3).2 306 0 = dEat (dAll u w c n) (dGrown (dAll u w c n) a1 (τ 400 g) a2 a3) ∧ (∀ f : Nat, f ≠ 302 → f ≠ 303 → f ≠ 306 → (s_X3_passDay τ g a1 a2 a3).2 f = τ f) ∧ ∀ i, i < s → (s_X3_passDay τ g a1 a2 a3).2 302 i = dHun u w c n (τ 402 g) (dGrown (dAll u w c n) a1 (τ 400 g) a2 a3) (num i) := by
  have G0 := G
  obtain ⟨g1, g2, g3, g4, g5, g6, g7, g8⟩ := G
  obtain ⟨b1, b2, b3⟩ := dall_bd (u := u) (c := c) hn hw
  obtain ⟨gr, hgr⟩ : ∃ x, dGrown (dAll u w c n) a1 (τ 400 g) a2 a3 = x := ⟨_, rfl⟩
  have egr : s_X3_grow (s_X3_tread τ a1 a2) (τ 400 g) a3 = gr := by
    rw [← hgr]
    unfold dGrown s_X3_tread
    rw [g7]
  rw [hgr] at hg ⊢
  obtain ⟨et, het⟩ : ∃ x, dEat (dAll u w c n) gr = x := ⟨_, rfl⟩
  have eet : (if dAll u w c n < gr then dAll u w c n else gr) = et := het
  have hl : 0 ≤ (dAll u w c n - et).toInt ∧ (dAll u w c n - et).toInt ≤ (dAll u w c n).toInt := by
    rw [← eet]
    by_cases q : dAll u w c n < gr
    · rw [if_pos q, sub_ti (by omega) (by omega)]
      omega
    · rw [if_neg q]
      rw [Int32.lt_iff_toInt_lt] at q
      rw [sub_ti (by omega) (by omega)]
      omega
  have G1 : GS u w c n (put τ 306 0 et) s num := ⟨g1, g2, g3, g4, g5, g6, g7, g8⟩
  obtain ⟨f1, f2⟩ := sh_all G1 hn hw hl
  obtain ⟨tb, htb⟩ : ∃ t, s_X3_shareHunger (put τ 306 0 et) (dAll u w c n - et) = t := ⟨_, rfl⟩
  rw [htb] at f1 f2
  have eP : s_X3_passDay τ g a1 a2 a3 = if tb 402 g = 0 then s_X3_passDay_c53 τ g a1 a2 a3 (iter s_X3_passDay_l53 ((tb 304 0).toNatClampNeg - 0) 0 tb) else (gr - tb 306 0, tb) := by
    unfold s_X3_passDay
    rw [egr, g7]
    simp only [eet, htb]
  rw [eP, het]
  have t402 : tb 402 = τ 402 := (f1 402 (by decide) (by decide)).trans (put_fr (by decide))
  have t306 : tb 306 0 = et := by
    rw [f1 306 (by decide) (by decide)]
    exact put_same
  have t304 : (tb 304 0).toNatClampNeg - 0 = s := by
    rw [f1 304 (by decide) (by decide), show put τ 306 0 et 304 = τ 304 from put_fr (by decide), g2, nI_clamp (by omega)]
    omega
  have t301 : tb 301 = τ 301 := (f1 301 (by decide) (by decide)).trans (put_fr (by decide))
  have t302 : ∀ i, i < s → tb 302 i = dShare u w c n (dAll u w c n - et) (dAll u w c n) (num i) := by
    intro i hi
    rw [f2 i hi]
    by_cases q : dAll u w c n ≤ 0
    · rw [if_pos q]
      have : put τ 306 0 et 302 i = τ 302 i := congrFun (put_fr (by decide)) i
      rw [this, hz q i hi]
      unfold dShare
      rw [if_pos q]
    · rw [if_neg q]
  have fr : ∀ f : Nat, f ≠ 302 → f ≠ 303 → f ≠ 306 → tb f = τ f := fun f p q r => (f1 f p q).trans (put_fr r)
  rw [t402, t304]
  have eH : ∀ i, dHun u w c n (τ 402 g) gr (num i) = dShare u w c n (dAll u w c n - et) (dAll u w c n) (num i) + (if τ 402 g = 0 then w (num i) else 0) := by
    intro i
    unfold dHun
    rw [het]
  by_cases hwt : τ 402 g = 0
  · rw [if_pos hwt]
    have it := it_ind (L := s_X3_passDay_l53) (P := fun k (t : St) => (∀ f : Nat, f ≠ 302 → t f = tb f) ∧ (∀ i, i < k → t 302 i = tb 302 i + tb 301 i) ∧ (∀ i, k ≤ i → t 302 i = tb 302 i)) (s := tb) ⟨fun _ _ => rfl, fun i h => absurd h (Nat.not_lt_zero i), fun _ _ => rfl⟩ s (fun k t _ ih => by
      obtain ⟨i1, i2, i3⟩ := ih
      unfold s_X3_passDay_l53
      try dsimp only
      refine ⟨fun f q => (put_fr q).trans (i1 f q), fun i hi => ?_, fun i hi => ?_⟩
      · show upd (t 302) k (t 302 k + t 301 k) i = _
        by_cases hq : i = k
        · rw [hq, pk_us, i3 k (Nat.le_refl k), i1 301 (by decide)]
        · rw [pk_un hq]
          exact i2 i (by omega)
      · show upd (t 302) k (t 302 k + t 301 k) i = _
        rw [pk_un (show i ≠ k by omega)]
        exact i3 i (by omega))
    obtain ⟨tc, htc⟩ : ∃ t, iter s_X3_passDay_l53 s 0 tb = t := ⟨_, rfl⟩
    rw [htc] at it ⊢
    obtain ⟨i1, i2, i3⟩ := it
    have eCc : s_X3_passDay_c53 τ g a1 a2 a3 tc = (gr - tc 306 0, tc) := by
      unfold s_X3_passDay_c53
      try dsimp only
      rw [egr]
    have c306 : tc 306 0 = et := by rw [i1 306 (by decide), t306]
    rw [eCc]
    refine ⟨by show gr - tc 306 0 = gr - et; rw [c306], c306, fun f p q r => (i1 f p).trans (fr f p q r), fun i hi => ?_⟩
    rw [eH, if_pos hwt]
    show tc 302 i = _
    rw [i2 i hi, t302 i hi, t301, (g3 i hi).2.2.2]
  · rw [if_neg hwt]
    refine ⟨by show gr - tb 306 0 = gr - et; rw [t306], t306, fr, fun i hi => ?_⟩
    rw [eH, if_neg hwt, Int32.add_zero]
    exact t302 i hi
theorem ho_yes {τ : St} {a : Int32} {i : Nat} (hi : τ 300 i = a) (hj : ∀ j, j < i → ¬ τ 300 j = a) : ∀ m k : Nat, k ≤ i → i < k + m → s_X3_hungerOf_c2r (iterR (s_X3_hungerOf_l2 τ a) m k ()) = τ 302 i := by
  intro m
  induction m with
  | zero => intro k h1 h2; omega
  | succ m ih =>
    intro k h1 h2
    show s_X3_hungerOf_c2r (iterR1 (s_X3_hungerOf_l2 τ a) m k (s_X3_hungerOf_l2 τ a k ())) = τ 302 i
    unfold s_X3_hungerOf_l2
    try dsimp only
    by_cases e : k = i
    · rw [e, if_pos hi]
      rfl
    · rw [if_neg (hj k (by omega))]
      exact ih (k + 1) (by omega) (by omega)
theorem ho_no {τ : St} {a : Int32} : ∀ m k : Nat, (∀ j, k ≤ j → j < k + m → ¬ τ 300 j = a) → s_X3_hungerOf_c2r (iterR (s_X3_hungerOf_l2 τ a) m k ()) = 0 := by
  intro m
  induction m with
  | zero => intro k _; rfl
  | succ m ih =>
    intro k h
    show s_X3_hungerOf_c2r (iterR1 (s_X3_hungerOf_l2 τ a) m k (s_X3_hungerOf_l2 τ a k ())) = 0
    unfold s_X3_hungerOf_l2
    try dsimp only
    rw [if_neg (h k (Nat.le_refl k) (by omega))]
    exact ih (k + 1) (fun j h1 h2 => h j (by omega) (by omega))
/-- the hunger that is told of a herd: its own if it is there, else none -/
theorem hg_eq {u w : Nat → Int32} {c : Int32} {n : Nat} {τ : St} {s : Nat} {num : Nat → Nat} (G : GS u w c n τ s num) (hn : n ≤ 20) {F : Nat → Int32} (h2 : ∀ i, i < s → τ 302 i = F (num i)) {h : Nat} (hh : h < n) : s_X3_hungerOf τ (nI h) = if u h = c then F h else 0 := by
  obtain ⟨g1, g2, g3, g4, g5, g6, g7, g8⟩ := G
  unfold s_X3_hungerOf
  rw [g2, nI_clamp (by omega), Nat.sub_zero]
  by_cases hc : u h = c
  · rw [if_pos hc]
    obtain ⟨i, i1, i2⟩ := g8 h hh hc
    subst i2
    rw [ho_yes (τ := τ) (a := nI (num i)) (i := i) (g3 i i1).2.2.1 (fun j hj e => by
      rw [(g3 j (by omega)).2.2.1] at e
      have := nI_inj (by have := (g3 j (by omega)).1; omega) (by omega) e
      have := g4 j i hj i1
      omega) s 0 (Nat.zero_le i) (by omega)]
    exact h2 i i1
  · rw [if_neg hc]
    refine ho_no s 0 (fun j _ hj e => hc ?_)
    have a := g3 j (by omega)
    rw [a.2.2.1] at e
    have := nI_inj (by omega) (by omega) e
    rw [← this]
    exact a.2.1
theorem pt_fr {τ σ : St} (h1 : τ 201 = σ 201) (h2 : τ 202 = σ 202) (k : Nat) : s_X2_parts τ k = s_X2_parts σ k := by
  unfold s_X2_parts
  rw [h1, h2]
/-- a day on a piece, in the class -/
theorem gz {σ : St} {n p : Nat} (hn : (σ 815 0).toNatClampNeg = n) (n20 : n ≤ 20) (p31 : p < 2 ^ 31) (hw : ∀ h, h < n → 0 ≤ (s_X2_parts σ h).toInt ∧ (s_X2_parts σ h).toInt ≤ 4500) {gr : Int32} (hgr : dGrown (dAll (σ 203) (s_X2_parts σ) (nI p) n) (σ 403 p) (σ 400 p) (s_X7_rainOn σ (σ 816 0)) (s_X7_rateOn σ (σ 816 0)) = gr) (hg : 0 ≤ gr.toInt) : (s_X8_graze σ (nI p)).1 = Sm (fun h => if σ 203 h = nI p then dHun (σ 203) (s_X2_parts σ) (nI p) n (σ 402 p) gr h else 0) n ∧ (s_X8_graze σ (nI p)).2 403 = upd (σ 403) p (gr - dEat (dAll (σ 203) (s_X2_parts σ) (nI p) n) gr) ∧ (s_X8_graze σ (nI p)).2 405 = upd (σ 405) p (σ 405 p + dEat (dAll (σ 203) (s_X2_parts σ) (nI p) n) gr) ∧ (∀ h, h < n → (s_X8_graze σ (nI p)).2 205 h = σ 205 h + (if σ 203 h = nI p then dHun (σ 203) (s_X2_parts σ) (nI p) n (σ 402 p) gr h else 0)) ∧ (∀ h, n ≤ h → (s_X8_graze σ (nI p)).2 205 h = σ 205 h) := by
  have c815 : s_X3_clear σ 815 = σ 815 := fr_s_X3_clear σ (by decide) (by decide) (by decide)
  have c201 : s_X3_clear σ 201 = σ 201 := fr_s_X3_clear σ (by decide) (by decide) (by decide)
  have c202 : s_X3_clear σ 202 = σ 202 := fr_s_X3_clear σ (by decide) (by decide) (by decide)
  have c203 : s_X3_clear σ 203 = σ 203 := fr_s_X3_clear σ (by decide) (by decide) (by decide)
  obtain ⟨s, num, G, z2, fr⟩ := gather (σ 203) (s_X2_parts σ) (nI p) (s_X3_clear σ) (s_X8_graze_l9 (nI p)) (fun k τ _ hf => by
    unfold s_X8_graze_l9
    try dsimp only
    rw [(hf 203 (by decide) (by decide) (by decide) (by decide) (by decide)).trans c203, pt_fr ((hf 201 (by decide) (by decide) (by decide) (by decide) (by decide)).trans c201) ((hf 202 (by decide) (by decide) (by decide) (by decide) (by decide)).trans c202)]) rfl rfl n n20
  obtain ⟨t, ht⟩ : ∃ t, iter (s_X8_graze_l9 (nI p)) n 0 (s_X3_clear σ) = t := ⟨_, rfl⟩
  rw [ht] at G z2 fr
  have F : ∀ f : Nat, f ≠ 300 → f ≠ 301 → f ≠ 302 → f ≠ 304 → f ≠ 305 → f ≠ 306 → t f = σ f := fun f a b d e k l => (fr f a b d e k).trans (fr_s_X3_clear σ e k l)
  have t403 : t 403 = σ 403 := F 403 (by decide) (by decide) (by decide) (by decide) (by decide) (by decide)
  have t400 : t 400 = σ 400 := F 400 (by decide) (by decide) (by decide) (by decide) (by decide) (by decide)
  have t402 : t 402 = σ 402 := F 402 (by decide) (by decide) (by decide) (by decide) (by decide) (by decide)
  have t816 : t 816 = σ 816 := F 816 (by decide) (by decide) (by decide) (by decide) (by decide) (by decide)
  have t701 : t 701 = σ 701 := F 701 (by decide) (by decide) (by decide) (by decide) (by decide) (by decide)
  have t700 : t 700 = σ 700 := F 700 (by decide) (by decide) (by decide) (by decide) (by decide) (by decide)
  have rn : s_X7_rainOn t (t 816 0) = s_X7_rainOn σ (σ 816 0) := by
    unfold s_X7_rainOn
    rw [t816, t701]
  have rt : s_X7_rateOn t (t 816 0) = s_X7_rateOn σ (σ 816 0) := by
    unfold s_X7_rateOn
    rw [t816, t701, t700]
  have P := pd G n20 hw (fun _ => z2) p (t 403 p) (s_X7_rainOn t (t 816 0)) (s_X7_rateOn t (t 816 0)) (by rw [t403, t400, rn, rt, hgr]; exact hg)
  rw [t403, t400, t402, rn, rt, hgr] at P
  obtain ⟨q1, q2, q3, q4⟩ := P
  obtain ⟨pr, hpr⟩ : ∃ x, s_X3_passDay t p (σ 403 p) (s_X7_rainOn σ (σ 816 0)) (s_X7_rateOn σ (σ 816 0)) = x := ⟨_, rfl⟩
  rw [hpr] at q1 q2 q3 q4
  obtain ⟨pv, pt⟩ := pr
  obtain ⟨x1, hx1⟩ : ∃ x, put (put pt 403 p pv) 405 p (pt 405 p + pt 306 0) = x := ⟨_, rfl⟩
  have q1 : pv = gr - dEat (dAll (σ 203) (s_X2_parts σ) (nI p) n) gr := q1
  have q2 : pt 306 0 = dEat (dAll (σ 203) (s_X2_parts σ) (nI p) n) gr := q2
  have q3 : ∀ f : Nat, f ≠ 302 → f ≠ 303 → f ≠ 306 → pt f = t f := q3
  have p815 : (pt 815 0).toNatClampNeg - 0 = n := by
    rw [q3 815 (by decide) (by decide) (by decide), F 815 (by decide) (by decide) (by decide) (by decide) (by decide) (by decide), hn]
    omega
  have eg : s_X8_graze σ (nI p) = s_X8_graze_c119 (iter (s_X8_graze_l119 (nI p)) n 0 ((0 : Int32), x1)) := by
    unfold s_X8_graze
    rw [c815, hn, Nat.sub_zero, ht]
    unfold s_X8_graze_c9
    try dsimp only
    rw [nI_clamp p31, rn, rt, t403, hpr]
    show s_X8_graze_c119 (iter (s_X8_graze_l119 (nI p)) ((pt 815 0).toNatClampNeg - 0) 0 ((0 : Int32), put (put pt 403 p pv) 405 p (pt 405 p + pt 306 0))) = _
    rw [p815, hx1]
  have c119 : ∀ q : Int32 × St, s_X8_graze_c119 q = q := by
    intro q
    obtain ⟨a, b⟩ := q
    rfl
  rw [eg, c119]
  have X : ∀ f : Nat, f ≠ 403 → f ≠ 405 → x1 f = pt f := fun f a b => by
    rw [← hx1]
    exact (put_fr b).trans (put_fr a)
  have G1 : GS (σ 203) (s_X2_parts σ) (nI p) n x1 s num := by
    obtain ⟨g1, g2, g3, g4, g5, g6, g7, g8⟩ := G
    refine ⟨g1, ?_, fun i hi => ?_, g4, g5, g6, ?_, g8⟩
    · rw [X 304 (by decide) (by decide), q3 304 (by decide) (by decide) (by decide)]
      exact g2
    · rw [X 300 (by decide) (by decide), q3 300 (by decide) (by decide) (by decide), X 301 (by decide) (by decide), q3 301 (by decide) (by decide) (by decide)]
      exact g3 i hi
    · rw [X 305 (by decide) (by decide), q3 305 (by decide) (by decide) (by decide)]
      exact g7
  have x203 : x1 203 = σ 203 := (X 203 (by decide) (by decide)).trans ((q3 203 (by decide) (by decide) (by decide)).trans (F 203 (by decide) (by decide) (by decide) (by decide) (by decide) (by decide)))
  have x205 : x1 205 = σ 205 := (X 205 (by decide) (by decide)).trans ((q3 205 (by decide) (by decide) (by decide)).trans (F 205 (by decide) (by decide) (by decide) (by decide) (by decide) (by decide)))
  have HO : ∀ h, h < n → s_X3_hungerOf x1 (nI h) = if σ 203 h = nI p then dHun (σ 203) (s_X2_parts σ) (nI p) n (σ 402 p) gr h else 0 := fun h hh => hg_eq G1 n20 (F := dHun (σ 203) (s_X2_parts σ) (nI p) n (σ 402 p) gr) (fun i hi => by
    rw [X 302 (by decide) (by decide)]
    exact q4 i hi) hh
  have it := it_ind (L := s_X8_graze_l119 (nI p)) (P := fun k (q : Int32 × St) => q.1 = Sm (fun h => if σ 203 h = nI p then dHun (σ 203) (s_X2_parts σ) (nI p) n (σ 402 p) gr h else 0) k ∧ (∀ f : Nat, f ≠ 205 → q.2 f = x1 f) ∧ (∀ h, h < k → q.2 205 h = σ 205 h + (if σ 203 h = nI p then dHun (σ 203) (s_X2_parts σ) (nI p) n (σ 402 p) gr h else 0)) ∧ (∀ h, k ≤ h → q.2 205 h = σ 205 h)) (s := ((0 : Int32), x1)) ⟨rfl, fun _ _ => rfl, fun i h => absurd h (Nat.not_lt_zero i), fun h _ => congrFun x205 h⟩ n (fun k q hk ih => by
    obtain ⟨v, y⟩ := q
    obtain ⟨i1, i2, i3, i4⟩ := ih
    have i1 : v = Sm (fun h => if σ 203 h = nI p then dHun (σ 203) (s_X2_parts σ) (nI p) n (σ 402 p) gr h else 0) k := i1
    have i2 : ∀ f : Nat, f ≠ 205 → y f = x1 f := i2
    have i4 : ∀ h : Nat, k ≤ h → y 205 h = σ 205 h := i4
    have hy : s_X3_hungerOf y (nI k) = s_X3_hungerOf x1 (nI k) := by
      unfold s_X3_hungerOf
      have : s_X3_hungerOf_l2 y (nI k) = s_X3_hungerOf_l2 x1 (nI k) := by
        funext a b
        unfold s_X3_hungerOf_l2
        rw [i2 300 (by decide), i2 302 (by decide)]
      rw [this, i2 304 (by decide)]
    unfold s_X8_graze_l119
    try dsimp only
    rw [i2 203 (by decide), x203, hy, HO k hk]
    by_cases hc : σ 203 k = nI p
    · rw [if_pos hc, if_pos hc]
      refine ⟨?_, fun f q => (put_fr q).trans (i2 f q), fun h hh => ?_, fun h hh => ?_⟩
      · show _ = Sm (fun h => if σ 203 h = nI p then dHun (σ 203) (s_X2_parts σ) (nI p) n (σ 402 p) gr h else 0) k + (if σ 203 k = nI p then dHun (σ 203) (s_X2_parts σ) (nI p) n (σ 402 p) gr k else 0)
        rw [if_pos hc, ← i1]
      · show upd (y 205) k _ h = _
        by_cases hq : h = k
        · rw [hq, pk_us, if_pos hc, i4 k (Nat.le_refl k)]
        · rw [pk_un hq]
          exact i3 h (by omega)
      · show upd (y 205) k _ h = _
        rw [pk_un (show h ≠ k by omega)]
        exact i4 h (by omega)
    · rw [if_neg hc]
      refine ⟨?_, i2, fun h hh => ?_, fun h hh => i4 h (by omega)⟩
      · show v = Sm (fun h => if σ 203 h = nI p then dHun (σ 203) (s_X2_parts σ) (nI p) n (σ 402 p) gr h else 0) k + (if σ 203 k = nI p then dHun (σ 203) (s_X2_parts σ) (nI p) n (σ 402 p) gr k else 0)
        rw [if_neg hc, ← i1, Int32.add_zero]
      · by_cases hq : h = k
        · rw [hq, if_neg hc, Int32.add_zero]
          exact i4 k (Nat.le_refl k)
        · exact i3 h (by omega))
  obtain ⟨j1, j2, j3, j4⟩ := it
  refine ⟨j1, ?_, ?_, j3, j4⟩
  · rw [j2 403 (by decide), ← hx1]
    show upd (pt 403) p pv = _
    rw [q3 403 (by decide) (by decide) (by decide), t403, q1]
  · rw [j2 405 (by decide), ← hx1]
    show upd (pt 405) p (pt 405 p + pt 306 0) = _
    rw [q3 405 (by decide) (by decide) (by decide), F 405 (by decide) (by decide) (by decide) (by decide) (by decide) (by decide), q2]
