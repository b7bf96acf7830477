theorem dv {D s k : Nat} (h : k < D) : (s * D + k) / D = s := by
  rw [Nat.add_comm, Nat.add_mul_div_right _ _ (by omega), Nat.div_eq_of_lt h, Nat.zero_add]
theorem nI_mu {a b : Nat} (h : a * b < 1000) (ha : a < 1000) (hb : b < 1000) : nI a * nI b = nI (a * b) := by
  have e : ((a * b : Nat) : Int) = (a : Int) * (b : Int) := Int.natCast_mul a b
  rw [← Int32.toInt_inj, nI_toInt (by omega), mul_ti (by rw [nI_toInt (by omega), nI_toInt (by omega), ← e]; omega) (by rw [nI_toInt (by omega), nI_toInt (by omega), ← e]; omega), nI_toInt (by omega), nI_toInt (by omega), e]
theorem nI_ad {a b : Nat} (h : a + b < 100000) : nI a + nI b = nI (a + b) := by
  rw [← Int32.toInt_inj, nI_toInt (by omega), add_ti (by rw [nI_toInt (by omega), nI_toInt (by omega)]; omega) (by rw [nI_toInt (by omega), nI_toInt (by omega)]; omega), nI_toInt (by omega), nI_toInt (by omega)]
  omega
theorem nI_v {x : Int32} (h : 0 ≤ x.toInt) : x = nI x.toNatClampNeg := by
  rw [← Int32.toInt_inj, nI_toInt (tn_lt x), tn_toInt]
  omega
/-- where the herds are in a step of a trial -/
def uT (σ : St) (w i1 i2 : Nat) (T : Nat → Int32) (s h : Nat) : Int32 := if h = i1 then T (w * s) else if w = 2 ∧ h = i2 then T (w * s + 1) else σ 38 h
theorem c44 (σ : St) : ∀ m : Nat, (∀ f : Nat, f ≠ 44 → iter s_X9_tries_l7 m 0 σ f = σ f) ∧ ∀ p : Nat, p < m → iter s_X9_tries_l7 m 0 σ 44 p = σ 13 p := by
  intro m
  refine it_ind (L := s_X9_tries_l7) (P := fun k (t : St) => (∀ f : Nat, f ≠ 44 → t f = σ f) ∧ ∀ p : Nat, p < k → t 44 p = σ 13 p) ⟨fun _ _ => rfl, fun h q => absurd q (Nat.not_lt_zero h)⟩ m (fun k t _ ih => ?_)
  unfold s_X9_tries_l7
  try dsimp only
  refine ⟨fun f q => (put_fr q).trans (ih.1 f q), fun h hh => ?_⟩
  show upd (t 44) k (t 13 k) h = σ 13 h
  by_cases hq : h = k
  · rw [hq, pk_us, ih.1 13 (by decide)]
  · rw [pk_un hq]
    exact ih.2 h (by omega)
/-- what the turning herds hunger in a trial, in the reference -/
theorem tries_eq {σ τ : St} {n w i1 i2 A D : Nat} (hn : (σ 6 0).toNatClampNeg = n) (n20 : n ≤ 20) (hw : ∀ h, 0 ≤ (wM σ h).toInt ∧ (wM σ h).toInt ≤ 4500) (K : KC σ) (R22 : ∀ i : Nat, 0 ≤ (σ 22 i).toInt ∧ (σ 22 i).toInt ≤ 1000) (KRs : KR σ) (J4 : ∀ h : Nat, h < (σ 6 0).toNatClampNeg → ¬ σ 41 h = 0 → σ 38 h < 0) (hτ : ∀ f : Nat, f ≠ 43 → f ≠ 44 → f ≠ 45 → f ≠ 46 → f ≠ 47 → f ≠ 48 → τ f = σ f) (w12 : w = 1 ∨ w = 2) (hi1 : i1 < n) (hi2 : w = 2 → i2 < n ∧ i1 ≠ i2) (A4 : A ≤ 4) (D1 : 0 < D) (D10 : D ≤ 10) (d0 : 0 ≤ (σ 1 0).toInt) (hd : (σ 1 0).toNatClampNeg + A * D ≤ 720) (a2 : Int32) (ha2 : w = 2 → a2 = nI i2) : (s_X9_tries τ (nI i1) a2 (nI w) (nI A) (nI D)).1 = Sm (fun d => hT σ (fun d => uT σ w i1 i2 (τ 47) (d / D)) n d i1 + (if w = 2 then hT σ (fun d => uT σ w i1 i2 (τ 47) (d / D)) n d i2 else 0)) (A * D) := by
  obtain ⟨U, hU⟩ : ∃ U : Nat → Nat → Int32, U = fun d => uT σ w i1 i2 (τ 47) (d / D) := ⟨_, rfl⟩
  rw [← hU]
  have Ud : ∀ s k h, k < D → U (s * D + k) h = uT σ w i1 i2 (τ 47) s h := fun s k h hk => by
    rw [hU]
    show uT σ w i1 i2 (τ 47) ((s * D + k) / D) h = _
    rw [dv hk]
  have τ6 : τ 6 = σ 6 := hτ 6 (by decide) (by decide) (by decide) (by decide) (by decide) (by decide)
  have τ2 : τ 2 = σ 2 := hτ 2 (by decide) (by decide) (by decide) (by decide) (by decide) (by decide)
  have τ38 : τ 38 = σ 38 := hτ 38 (by decide) (by decide) (by decide) (by decide) (by decide) (by decide)
  have τ41 : τ 41 = σ 41 := hτ 41 (by decide) (by decide) (by decide) (by decide) (by decide) (by decide)
  have KRt : KR τ := by
    unfold KR at KRs ⊢
    rw [τ6, τ2, τ38, hτ 25 (by decide) (by decide) (by decide) (by decide) (by decide) (by decide), hτ 26 (by decide) (by decide) (by decide) (by decide) (by decide) (by decide), hτ 4 (by decide) (by decide) (by decide) (by decide) (by decide) (by decide), hτ 5 (by decide) (by decide) (by decide) (by decide) (by decide) (by decide), hτ 31 (by decide) (by decide) (by decide) (by decide) (by decide) (by decide), hτ 27 (by decide) (by decide) (by decide) (by decide) (by decide) (by decide), hτ 30 (by decide) (by decide) (by decide) (by decide) (by decide) (by decide)]
    exact KRs
  obtain ⟨t1, ht1⟩ : ∃ t, s_X9_places τ = t := ⟨_, rfl⟩
  have f1 : ∀ f : Nat, f ≠ 45 → t1 f = τ f := fun f q => by
    rw [← ht1]
    exact fr_s_X9_places τ q
  have p45 : ∀ h, h < n → t1 45 h = σ 38 h := fun h hh => by
    rw [← ht1, pl_w KRt (by rw [τ6, τ41, τ38]; exact J4) (by rw [τ6, hn]; exact n20) (by rw [τ6, hn]; exact hh), τ38]
  obtain ⟨t2, ht2⟩ : ∃ t, iter s_X9_tries_l7 (σ 2 0).toNatClampNeg 0 t1 = t := ⟨_, rfl⟩
  have C := c44 t1 (σ 2 0).toNatClampNeg
  rw [ht2] at C
  have F2 : ∀ f : Nat, f ≠ 43 → f ≠ 44 → f ≠ 45 → f ≠ 46 → t2 f = τ f := fun f _ b c _ => (C.1 f b).trans (f1 f c)
  have e12 : (t1 2 0).toNatClampNeg - 0 = (σ 2 0).toNatClampNeg := by rw [f1 2 (by decide), τ2]; omega
  have eT : (s_X9_tries τ (nI i1) a2 (nI w) (nI A) (nI D)).1 = (iter (s_X9_tries_l42 (nI i1) a2 (nI w) (nI D)) A 0 ((0 : Int32), t2)).1 := by
    unfold s_X9_tries
    rw [ht1, e12, ht2]
    unfold s_X9_tries_c7 s_X9_tries_c42
    try dsimp only
    rw [nI_clamp (by omega), Nat.sub_zero]
  rw [eT]
  have wI : (nI w = (2 : Int32)) ↔ w = 2 := ⟨fun e => nI_inj (by omega) (by decide) (e.trans (by decide : (2 : Int32) = nI 2)), fun e => by rw [e]; decide⟩
  have key := it_ind (L := s_X9_tries_l42 (nI i1) a2 (nI w) (nI D)) (P := fun s (q : Int32 × St) => q.1 = Sm (fun d => hT σ U n d i1 + (if w = 2 then hT σ U n d i2 else 0)) (s * D) ∧ (∀ f : Nat, f ≠ 43 → f ≠ 44 → f ≠ 45 → f ≠ 46 → q.2 f = τ f) ∧ (∀ h, h < n → h ≠ i1 → (w = 2 → h ≠ i2) → q.2 45 h = σ 38 h) ∧ (∀ p, p < (σ 2 0).toNatClampNeg → q.2 44 p = gP σ U n p (s * D))) (s := ((0 : Int32), t2)) ⟨by rw [Nat.zero_mul]; rfl, F2, fun h hh _ _ => by
      show t2 45 h = σ 38 h
      rw [C.1 45 (by decide)]
      exact p45 h hh, fun p hp => by
      show t2 44 p = gP σ U n p (0 * D)
      rw [Nat.zero_mul, C.2 p hp, f1 13 (by decide), hτ 13 (by decide) (by decide) (by decide) (by decide) (by decide) (by decide)]
      rfl⟩ A (fun s q hs ih => by
    obtain ⟨v, y⟩ := q
    obtain ⟨i1', i2', i3', i4'⟩ := ih
    have i1' : v = Sm (fun d => hT σ U n d i1 + (if w = 2 then hT σ U n d i2 else 0)) (s * D) := i1'
    have i2' : ∀ f : Nat, f ≠ 43 → f ≠ 44 → f ≠ 45 → f ≠ 46 → y f = τ f := i2'
    have i3' : ∀ h, h < n → h ≠ i1 → (w = 2 → h ≠ i2) → y 45 h = σ 38 h := i3'
    have i4' : ∀ p, p < (σ 2 0).toNatClampNeg → y 44 p = gP σ U n p (s * D) := i4'
    have sD : s * D + D ≤ A * D := by
      have := Nat.mul_le_mul_right D hs
      rw [Nat.succ_mul] at this
      exact this
    have ws : w * s < 1000 := by
      have : w * s ≤ 2 * 4 := Nat.mul_le_mul (by omega) (by omega)
      omega
    have sDl : s * D < 1000 := by
      have : s * D ≤ 4 * 10 := Nat.mul_le_mul (by omega) D10
      omega
    obtain ⟨y1, hy1⟩ : ∃ y1 : St, (s_X9_tries_l42 (nI i1) a2 (nI w) (nI D) s (v, y) = s_X9_tries_j86 (nI i1) a2 (nI w) (nI D) s v y1 ∧ (∀ f : Nat, f ≠ 45 → y1 f = y f) ∧ ∀ h, h < n → y1 45 h = uT σ w i1 i2 (τ 47) s h) := by
      have y47 : y 47 = τ 47 := i2' 47 (by decide) (by decide) (by decide) (by decide)
      unfold s_X9_tries_l42
      try dsimp only
      rw [nI_mu ws (by omega) (by omega), nI_clamp (show i1 < 2 ^ 31 by omega), nI_clamp (show w * s < 2 ^ 31 by omega), y47]
      by_cases c : w = 2
      · rw [if_pos (wI.mpr c)]
        have j2 := hi2 c
        rw [ha2 c, nI_clamp (show i2 < 2 ^ 31 by omega)]
        have o1 : (1 : Int32) = nI 1 := by decide
        rw [o1, nI_ad (by omega), nI_clamp (show w * s + 1 < 2 ^ 31 by omega)]
        refine ⟨put (put y 45 i1 (τ 47 (w * s))) 45 i2 (τ 47 (w * s + 1)), rfl, fun f q => (put_fr q).trans (put_fr q), fun h hh => ?_⟩
        show upd (upd (y 45) i1 (τ 47 (w * s))) i2 (τ 47 (w * s + 1)) h = _
        unfold uT
        by_cases e1 : h = i1
        · rw [if_pos e1, e1, pk_un j2.2, pk_us]
        · rw [if_neg e1]
          by_cases e2 : h = i2
          · rw [if_pos ⟨c, e2⟩, e2, pk_us]
          · rw [if_neg (fun z => e2 z.2), pk_un e2, pk_un e1]
            exact i3' h hh e1 (fun _ => e2)
      · rw [if_neg (fun z => c (wI.mp z))]
        refine ⟨put y 45 i1 (τ 47 (w * s)), rfl, fun f q => put_fr q, fun h hh => ?_⟩
        show upd (y 45) i1 (τ 47 (w * s)) h = _
        unfold uT
        by_cases e1 : h = i1
        · rw [if_pos e1, e1, pk_us]
        · rw [if_neg e1, if_neg (fun z => c z.1), pk_un e1]
          exact i3' h hh e1 (fun z => absurd z c)
    obtain ⟨e42, fy1, y145⟩ := hy1
    rw [e42]
    have e86 : s_X9_tries_j86 (nI i1) a2 (nI w) (nI D) s v y1 = iter (s_X9_tries_l89 (nI i1) a2 (nI w) (nI D) s) D 0 (v, y1) := by
      unfold s_X9_tries_j86
      rw [nI_clamp (show D < 2 ^ 31 by omega), Nat.sub_zero]
      generalize iter (s_X9_tries_l89 (nI i1) a2 (nI w) (nI D) s) D 0 (v, y1) = r
      obtain ⟨a, b⟩ := r
      rfl
    rw [e86]
    have inner := it_ind (L := s_X9_tries_l89 (nI i1) a2 (nI w) (nI D) s) (P := fun k (q : Int32 × St) => q.1 = Sm (fun d => hT σ U n d i1 + (if w = 2 then hT σ U n d i2 else 0)) (s * D + k) ∧ (∀ f : Nat, f ≠ 43 → f ≠ 44 → f ≠ 46 → q.2 f = y1 f) ∧ (∀ p, p < (σ 2 0).toNatClampNeg → q.2 44 p = gP σ U n p (s * D + k))) (s := (v, y1)) ⟨i1', fun _ _ _ _ => rfl, fun p hp => by
        show y1 44 p = _
        rw [fy1 44 (by decide)]
        exact i4' p hp⟩ D (fun k q hk ih => by
      obtain ⟨x, t⟩ := q
      obtain ⟨j1, j2, j3⟩ := ih
      have j1 : x = Sm (fun d => hT σ U n d i1 + (if w = 2 then hT σ U n d i2 else 0)) (s * D + k) := j1
      have j2 : ∀ f : Nat, f ≠ 43 → f ≠ 44 → f ≠ 46 → t f = y1 f := j2
      have j3 : ∀ p, p < (σ 2 0).toNatClampNeg → t 44 p = gP σ U n p (s * D + k) := j3
      have tσ : ∀ f : Nat, f ≠ 43 → f ≠ 44 → f ≠ 45 → f ≠ 46 → f ≠ 47 → f ≠ 48 → t f = σ f := fun f a b c d e g => (j2 f a b d).trans ((fy1 f c).trans ((i2' f a b c d).trans (hτ f a b c d e g)))
      have t1d : t 1 0 = σ 1 0 := congrFun (tσ 1 (by decide) (by decide) (by decide) (by decide) (by decide) (by decide)) 0
      have dayI : (σ 1 0 + 1 + nI s * nI D) + nI k = nI ((σ 1 0).toNatClampNeg + 1 + (s * D + k)) := by
        rw [nI_mu sDl (by omega) (by omega)]
        have e1 : σ 1 0 = nI (σ 1 0).toNatClampNeg := nI_v d0
        have o1 : (1 : Int32) = nI 1 := by decide
        have e2 : (σ 1 0).toNatClampNeg + 1 + s * D + k = (σ 1 0).toNatClampNeg + 1 + (s * D + k) := by omega
        rw [← e2]
        obtain ⟨d1, hd1⟩ : ∃ d1, (σ 1 0).toNatClampNeg = d1 := ⟨_, rfl⟩
        rw [hd1] at e1 hd ⊢
        rw [e1, o1, nI_ad (by omega), nI_ad (by omega), nI_ad (by omega)]
      have hdc : ((t 1 0 + 1 + nI s * nI D) + nI k).toNatClampNeg = (σ 1 0).toNatClampNeg + 1 + (s * D + k) := by
        rw [t1d, dayI, nI_clamp (by omega)]
      have dayB := gB_day2 (σ := σ) (y := t) (U := U) (n := n) (d := s * D + k) (a1 := (t 1 0 + 1 + nI s * nI D) + nI k) hn n20 hw K R22 hdc tσ (fun h hh => by
        rw [j2 45 (by decide) (by decide) (by decide), y145 h hh, Ud s k h hk]) j3
      obtain ⟨b1, b2, b3⟩ := dayB
      obtain ⟨g, hg⟩ : ∃ g, s_X9_goesB t ((t 1 0 + 1 + nI s * nI D) + nI k) = g := ⟨_, rfl⟩
      rw [hg] at b1 b2 b3
      have el : s_X9_tries_l89 (nI i1) a2 (nI w) (nI D) s k (x, t) = (x + (g 43 i1 + (if w = 2 then g 43 i2 else 0)), g) := by
        unfold s_X9_tries_l89 s_X9_tries_j150
        try dsimp only
        rw [hg, nI_clamp (show i1 < 2 ^ 31 by omega)]
        by_cases c : w = 2
        · rw [if_pos (wI.mpr c), if_pos c, ha2 c, nI_clamp (show i2 < 2 ^ 31 by have := (hi2 c).1; omega)]
        · rw [if_neg (fun z => c (wI.mp z)), if_neg c]
      rw [el]
      refine ⟨?_, fun f a b c => (b1 f a b c).trans (j2 f a b c), fun p hp => b2 p hp⟩
      show x + (g 43 i1 + (if w = 2 then g 43 i2 else 0)) = Sm (fun d => hT σ U n d i1 + (if w = 2 then hT σ U n d i2 else 0)) (s * D + k) + (hT σ U n (s * D + k) i1 + (if w = 2 then hT σ U n (s * D + k) i2 else 0))
      rw [j1, b3 i1 hi1]
      by_cases c : w = 2
      · rw [if_pos c, if_pos c, b3 i2 (hi2 c).1]
      · rw [if_neg c, if_neg c])
    obtain ⟨r, hr⟩ : ∃ r, iter (s_X9_tries_l89 (nI i1) a2 (nI w) (nI D) s) D 0 (v, y1) = r := ⟨_, rfl⟩
    rw [hr] at inner ⊢
    obtain ⟨k1, k2, k3⟩ := inner
    have sm : (s + 1) * D = s * D + D := Nat.succ_mul s D
    refine ⟨by rw [sm]; exact k1, fun f a b c d => (k2 f a b d).trans ((fy1 f c).trans (i2' f a b c d)), fun h hh e1 e2 => ?_, fun p hp => by rw [sm]; exact k3 p hp⟩
    rw [k2 45 (by decide) (by decide) (by decide), y145 h hh]
    unfold uT
    rw [if_neg e1, if_neg (fun z => e2 z.1 z.2)])
  exact key.1
