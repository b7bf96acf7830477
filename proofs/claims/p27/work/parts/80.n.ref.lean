/-! hunger is shared out, in the reference -/
theorem it_addB {L : Nat → Int32 → Int32} {f : Nat → Int32} (n : Nat) (h : ∀ k v, k < n → L k v = v + f k) (v : Int32) : iter L n 0 v = v + Sm f n := by
  refine it_ind (P := fun k x => x = v + Sm f k) ?_ n (fun k t hk ht => ?_)
  · show v = v + 0
    rw [Int32.add_zero]
  · rw [h k t hk, ht]
    show v + Sm f k + f k = v + (Sm f k + f k)
    rw [Int32.add_assoc]
theorem ph_fr {τ σ : St} (h1 : τ 36 = σ 36) (h2 : τ 37 = σ 37) (a : Int32) : s_X9_partsOfHerd τ a = s_X9_partsOfHerd σ a := by
  unfold s_X9_partsOfHerd
  rw [h1, h2]
def wM (σ : St) (h : Nat) : Int32 := s_X9_partsOfHerd σ (nI h)
theorem l_q {lack all x : Int32} (hl : 0 ≤ lack.toInt ∧ lack.toInt ≤ all.toInt) (ha : 0 < all.toInt ∧ all.toInt ≤ 90000) (hx : 0 ≤ x.toInt ∧ x.toInt ≤ 4500) : ((lack.toInt64 * x.toInt64) / all.toInt64).toInt32 = dQ lack all x := by
  obtain ⟨d1, d2, d3, d4, d5, d6⟩ := dq_ti hl ha hx
  rw [i64_mul (by omega) (by omega), i64_div (by omega) ha.1, i64_32]
  rfl
theorem l_r {lack all x : Int32} (hl : 0 ≤ lack.toInt ∧ lack.toInt ≤ all.toInt) (ha : 0 < all.toInt ∧ all.toInt ≤ 90000) (hx : 0 ≤ x.toInt ∧ x.toInt ≤ 4500) : (lack.toInt64 * x.toInt64) - (lack.toInt64 * x.toInt64) / all.toInt64 * all.toInt64 = (dR lack all x).toInt64 := by
  obtain ⟨d1, d2, d3, d4, d5, d6⟩ := dq_ti hl ha hx
  have d2 : (lack * x / all).toInt = lack.toInt * x.toInt / all.toInt := d2
  have q1 : lack.toInt * x.toInt / all.toInt * all.toInt ≤ lack.toInt * x.toInt := Int.ediv_mul_le _ (by omega)
  have q0 : 0 ≤ lack.toInt * x.toInt / all.toInt * all.toInt := Int.mul_nonneg (Int.ediv_nonneg d4 (by omega)) (by omega)
  rw [i64_mul (by omega) (by omega), i64_div (by omega) ha.1, i64_mul (by rw [d2]; omega) (by rw [d2]; omega), i64_sub (by rw [d1, d6]; omega) (by rw [d1, d6]; omega)]
  rfl
theorem shs_eq {σ : St} {n : Nat} {c lack all : Int32} (hn : (σ 6 0).toNatClampNeg = n) (n20 : n ≤ 20) (hw : ∀ h, 0 ≤ (wM σ h).toInt ∧ (wM σ h).toInt ≤ 4500) (hl : 0 ≤ lack.toInt ∧ lack.toInt ≤ all.toInt) (ha : 0 < all.toInt ∧ all.toInt ≤ 90000) : ∀ h, s_X9_shares σ c all lack 43 h = if h < n ∧ σ 45 h = c then dQ lack all (wM σ h) + (if dLeft (σ 45) (wM σ) c n lack all ≤ dAhead (σ 45) (wM σ) c n lack all h then 0 else 1) else σ 43 h := by
  have one := it_ind (L := s_X9_shares_l7 c all lack) (P := fun k (q : Int32 × St) => q.1 = lack - Sm (fun h => if σ 45 h = c then dQ lack all (wM σ h) else 0) k ∧ (∀ f : Nat, f ≠ 43 → q.2 f = σ f) ∧ (∀ h, q.2 43 h = if h < k ∧ σ 45 h = c then dQ lack all (wM σ h) else σ 43 h)) (s := (lack, σ)) ⟨by show lack = lack - 0; rw [Int32.sub_zero], fun _ _ => rfl, fun h => by rw [if_neg (fun q => Nat.not_lt_zero h q.1)]⟩ n (fun k q hk ih => by
    obtain ⟨v, t⟩ := q
    obtain ⟨i1, i2, i3⟩ := ih
    have i1 : v = lack - Sm (fun h => if σ 45 h = c then dQ lack all (wM σ h) else 0) k := i1
    have i2 : ∀ f : Nat, f ≠ 43 → t f = σ f := i2
    have i3 : ∀ h, t 43 h = if h < k ∧ σ 45 h = c then dQ lack all (wM σ h) else σ 43 h := i3
    have ep : s_X9_partsOfHerd t (nI k) = wM σ k := ph_fr (i2 36 (by decide)) (i2 37 (by decide)) _
    unfold s_X9_shares_l7
    try dsimp only
    rw [i2 45 (by decide), ep, l_q hl ha (hw k), put_same]
    by_cases hc : σ 45 k = c
    · rw [if_pos hc]
      refine ⟨?_, fun f q => (put_fr q).trans (i2 f q), fun h => ?_⟩
      · show v - dQ lack all (wM σ k) = lack - (Sm (fun h => if σ 45 h = c then dQ lack all (wM σ h) else 0) k + (if σ 45 k = c then dQ lack all (wM σ k) else 0))
        rw [if_pos hc, i1, Int32.sub_sub]
      · show upd (t 43) k (dQ lack all (wM σ k)) h = _
        by_cases hq : h = k
        · rw [hq, pk_us, if_pos (show k < k + 1 ∧ σ 45 k = c from ⟨by omega, hc⟩)]
        · rw [pk_un hq, i3 h]
          by_cases h1 : h < k ∧ σ 45 h = c
          · rw [if_pos h1, if_pos (show h < k + 1 ∧ σ 45 h = c from ⟨by omega, h1.2⟩)]
          · rw [if_neg h1, if_neg (fun z => h1 ⟨by omega, z.2⟩)]
    · rw [if_neg hc]
      refine ⟨?_, i2, fun h => ?_⟩
      · show v = lack - (Sm (fun h => if σ 45 h = c then dQ lack all (wM σ h) else 0) k + (if σ 45 k = c then dQ lack all (wM σ k) else 0))
        rw [if_neg hc, Int32.add_zero, i1]
      · show t 43 h = _
        rw [i3 h]
        by_cases hq : h = k
        · rw [hq, if_neg (fun z => hc z.2), if_neg (fun z => hc z.2)]
        · by_cases h1 : h < k ∧ σ 45 h = c
          · rw [if_pos h1, if_pos (show h < k + 1 ∧ σ 45 h = c from ⟨by omega, h1.2⟩)]
          · rw [if_neg h1, if_neg (fun z => h1 ⟨by omega, z.2⟩)])
  obtain ⟨p, hp⟩ : ∃ p, iter (s_X9_shares_l7 c all lack) n 0 (lack, σ) = p := ⟨_, rfl⟩
  rw [hp] at one
  obtain ⟨v, t⟩ := p
  obtain ⟨o1, o2, o3⟩ := one
  have o1 : v = dLeft (σ 45) (wM σ) c n lack all := o1
  have o2 : ∀ f : Nat, f ≠ 43 → t f = σ f := o2
  have o3 : ∀ h, t 43 h = if h < n ∧ σ 45 h = c then dQ lack all (wM σ h) else σ 43 h := o3
  have two := it_ind (L := s_X9_shares_l70 c all lack v) (P := fun k (q : St) => (∀ f : Nat, f ≠ 43 → q f = σ f) ∧ (∀ h, q 43 h = if h < k ∧ σ 45 h = c then t 43 h + (if v ≤ dAhead (σ 45) (wM σ) c n lack all h then 0 else 1) else t 43 h)) (s := t) ⟨o2, fun h => by rw [if_neg (fun q => Nat.not_lt_zero h q.1)]⟩ n (fun k q hk ih => by
    obtain ⟨i2, i3⟩ := ih
    have ep : ∀ a, s_X9_partsOfHerd q a = s_X9_partsOfHerd σ a := ph_fr (i2 36 (by decide)) (i2 37 (by decide))
    have e6 : (q 6 0).toNatClampNeg - 0 = n := by rw [i2 6 (by decide), hn]; omega
    unfold s_X9_shares_l70
    try dsimp only
    rw [i2 45 (by decide), e6]
    by_cases hc : σ 45 k = c
    · rw [if_pos hc]
      have ea : iter (s_X9_shares_l112 c all lack k q) n 0 (0 : Int32) = dAhead (σ 45) (wM σ) c n lack all k := by
        rw [it_addB n (f := fun o => if σ 45 o = c then (if dR lack all (wM σ k) < dR lack all (wM σ o) then 1 else if dR lack all (wM σ o) = dR lack all (wM σ k) then (if k ≤ o then 0 else 1) else 0) else 0) (fun o x ho => ?_), Int32.zero_add]
        · rfl
        · unfold s_X9_shares_l112
          try dsimp only
          rw [i2 45 (by decide), ep, ep]
          rw [show s_X9_partsOfHerd σ (nI o) = wM σ o from rfl, show s_X9_partsOfHerd σ (nI k) = wM σ k from rfl, l_r hl ha (hw o), l_r hl ha (hw k)]
          have c1 : (0 < lg_cmp (dR lack all (wM σ o)).toInt64 (dR lack all (wM σ k)).toInt64) ↔ dR lack all (wM σ k) < dR lack all (wM σ o) := (lg_cmp_gt _ _).trans (i64_lt _ _)
          have c2 : (lg_cmp (dR lack all (wM σ o)).toInt64 (dR lack all (wM σ k)).toInt64 = 0) ↔ dR lack all (wM σ o) = dR lack all (wM σ k) := (lg_cmp_eq _ _).trans (i64_eq _ _)
          have c3 : (nI k ≤ nI o) ↔ k ≤ o := by
            rw [Int32.le_iff_toInt_le, nI_toInt (by omega), nI_toInt (by omega)]
            omega
          by_cases h1 : σ 45 o = c
          · rw [if_pos h1, if_pos h1]
            by_cases h2 : dR lack all (wM σ k) < dR lack all (wM σ o)
            · rw [if_pos (c1.mpr h2), if_pos h2]
            · rw [if_neg (fun z => h2 (c1.mp z)), if_neg h2]
              by_cases h3 : dR lack all (wM σ o) = dR lack all (wM σ k)
              · rw [if_pos (c2.mpr h3), if_pos h3]
                by_cases h4 : k ≤ o
                · rw [if_pos (c3.mpr h4), if_pos h4]
                · rw [if_neg (fun z => h4 (c3.mp z)), if_neg h4]
              · rw [if_neg (fun z => h3 (c2.mp z)), if_neg h3]
          · rw [if_neg h1, if_neg h1, Int32.add_zero]
      rw [ea]
      have ec : s_X9_shares_c112 v k q (dAhead (σ 45) (wM σ) c n lack all k) = put q 43 k (q 43 k + (if v ≤ dAhead (σ 45) (wM σ) c n lack all k then 0 else 1)) := by
        unfold s_X9_shares_c112
        try dsimp only
        by_cases h1 : v ≤ dAhead (σ 45) (wM σ) c n lack all k
        · rw [if_pos h1, if_pos h1]
        · rw [if_neg h1, if_neg h1]
      rw [ec]
      refine ⟨fun f w => (put_fr w).trans (i2 f w), fun h => ?_⟩
      show upd (q 43) k _ h = _
      by_cases hq : h = k
      · rw [hq, pk_us, i3 k, if_neg (fun z => Nat.lt_irrefl k z.1), if_pos (show k < k + 1 ∧ σ 45 k = c from ⟨by omega, hc⟩)]
      · rw [pk_un hq, i3 h]
        by_cases h1 : h < k ∧ σ 45 h = c
        · rw [if_pos h1, if_pos (show h < k + 1 ∧ σ 45 h = c from ⟨by omega, h1.2⟩)]
        · rw [if_neg h1, if_neg (fun z => h1 ⟨by omega, z.2⟩)]
    · rw [if_neg hc]
      refine ⟨i2, fun h => ?_⟩
      rw [i3 h]
      by_cases hq : h = k
      · rw [hq, if_neg (fun z => hc z.2), if_neg (fun z => hc z.2)]
      · by_cases h1 : h < k ∧ σ 45 h = c
        · rw [if_pos h1, if_pos (show h < k + 1 ∧ σ 45 h = c from ⟨by omega, h1.2⟩)]
        · rw [if_neg h1, if_neg (fun z => h1 ⟨by omega, z.2⟩)])
  have es : s_X9_shares σ c all lack = iter (s_X9_shares_l70 c all lack v) n 0 t := by
    unfold s_X9_shares
    rw [hn, Nat.sub_zero, hp]
    unfold s_X9_shares_c7 s_X9_shares_c70
    try dsimp only
    rw [o2 6 (by decide), hn, Nat.sub_zero]
  intro h
  rw [es, two.2 h, o3 h, o1]
  by_cases h1 : h < n ∧ σ 45 h = c
  · rw [if_pos h1, if_pos h1, if_pos h1]
  · rw [if_neg h1, if_neg h1, if_neg h1]
theorem uu {f : Nat → Int32} {i : Nat} {x y : Int32} : upd (upd f i x) i y = upd f i y := by
  funext j
  by_cases hj : j = i
  · rw [hj, pk_us, pk_us]
  · rw [pk_un hj, pk_un hj, pk_un hj]
/-- grass that grows: long and int -/
theorem grow_eq {t full rate : Int32} (h0 : 0 ≤ t.toInt ∧ t.toInt ≤ full.toInt) (hf : full.toInt ≤ 100000) (hr : 0 ≤ rate.toInt ∧ rate.toInt ≤ 1000) : (if full ≤ t then t else (if (t.toInt64 + (if (rate.toInt64 * full.toInt64) / (1000 : Int64) < (1 : Int64) then (1 : Int64) else (rate.toInt64 * full.toInt64) / (1000 : Int64))) < full.toInt64 then (t.toInt64 + (if (rate.toInt64 * full.toInt64) / (1000 : Int64) < (1 : Int64) then (1 : Int64) else (rate.toInt64 * full.toInt64) / (1000 : Int64))) else full.toInt64).toInt32) = s_X3_grow t full rate := by
  have p0 : 0 ≤ rate.toInt * full.toInt := Int.mul_nonneg hr.1 (by omega)
  have p1 : rate.toInt * full.toInt ≤ 1000 * 100000 := Int.mul_le_mul hr.2 hf (by omega) (by decide)
  have em : (rate * full).toInt = rate.toInt * full.toInt := mul_ti (by omega) (by omega)
  have k1 : (1000 : Int32).toInt = 1000 := by decide
  have o1 : (1 : Int32).toInt = 1 := by decide
  have ed : (rate * full / 1000).toInt = rate.toInt * full.toInt / 1000 := by rw [div_ti (by omega) (by rw [k1]; decide), em, k1]
  have eX : (rate.toInt64 * full.toInt64) / (1000 : Int64) = (rate * full / 1000).toInt64 := by
    rw [i64_mul (by omega) (by omega), show (1000 : Int64) = (1000 : Int32).toInt64 by decide, i64_div (by omega) (by rw [k1]; decide)]
  have e1 : (1 : Int64) = (1 : Int32).toInt64 := by decide
  rw [eX]
  obtain ⟨Y, hY⟩ : ∃ y, rate * full / 1000 = y := ⟨_, rfl⟩
  rw [hY] at ed ⊢
  have Yb : 0 ≤ Y.toInt ∧ Y.toInt ≤ 100000 := by rw [ed]; omega
  have eM : (if Y.toInt64 < (1 : Int64) then (1 : Int64) else Y.toInt64) = (if (1 : Int32) < Y then Y else 1).toInt64 := by
    rw [e1]
    by_cases q : Y.toInt64 < (1 : Int32).toInt64
    · rw [if_pos q]
      rw [i64_lt, Int32.lt_iff_toInt_lt] at q
      rw [if_neg (by rw [Int32.lt_iff_toInt_lt]; omega)]
    · rw [if_neg q]
      rw [i64_lt, Int32.lt_iff_toInt_lt] at q
      by_cases q2 : (1 : Int32) < Y
      · rw [if_pos q2]
      · rw [if_neg q2]
        rw [Int32.lt_iff_toInt_lt] at q2
        rw [i64_eq, ← Int32.toInt_inj]
        omega
  rw [eM]
  unfold s_X3_grow
  rw [hY]
  obtain ⟨M, hM⟩ : ∃ m, (if (1 : Int32) < Y then Y else 1) = m := ⟨_, rfl⟩
  have Mb : 1 ≤ M.toInt ∧ M.toInt ≤ 100000 := by
    rw [← hM]
    split
    · rename_i q
      rw [Int32.lt_iff_toInt_lt, o1] at q
      omega
    · rw [o1]; omega
  rw [hM]
  have ea : (t + M).toInt = t.toInt + M.toInt := add_ti (by omega) (by omega)
  by_cases q : full ≤ t
  · rw [if_pos q]
    rw [Int32.le_iff_toInt_le] at q
    rw [if_neg (by rw [Int32.lt_iff_toInt_lt, ea]; omega), ← Int32.toInt_inj]
    omega
  · rw [if_neg q]
    have e64 : t.toInt64 + M.toInt64 = (t + M).toInt64 := by
      rw [← Int64.toInt_inj, add64 (by rw [ti64, ti64]; omega) (by rw [ti64, ti64]; omega), ti64, ti64, ti64, ea]
    rw [e64]
    by_cases q2 : t + M < full
    · rw [if_pos ((i64_lt _ _).mpr q2), if_pos q2, i64_32]
    · rw [if_neg (fun z => q2 ((i64_lt _ _).mp z)), if_neg q2, i64_32]
theorem tread_b {g all full rain : Int32} (hg : 0 ≤ g.toInt ∧ g.toInt ≤ full.toInt) (ha : 0 ≤ all.toInt ∧ all.toInt ≤ 90000) : 0 ≤ (if rain < 8 then g else (if 0 < (g - (all / 100)) then (g - (all / 100)) else 0)).toInt ∧ (if rain < 8 then g else (if 0 < (g - (all / 100)) then (g - (all / 100)) else 0)).toInt ≤ full.toInt := by
  have z : (0 : Int32).toInt = 0 := by decide
  have h100 : (100 : Int32).toInt = 100 := by decide
  have ed : (all / 100).toInt = all.toInt / 100 := by rw [div_ti ha.1 (by rw [h100]; decide), h100]
  have gl := g.toInt_lt
  have es : (g - all / 100).toInt = g.toInt - all.toInt / 100 := by rw [sub_ti (by rw [ed]; omega) (by rw [ed]; omega), ed]
  split
  · exact hg
  · split
    · rename_i q
      rw [Int32.lt_iff_toInt_lt, es, z] at q
      rw [es]
      omega
    · rw [z]; omega
theorem grown_b {g all full rain rate : Int32} (hg : 0 ≤ g.toInt ∧ g.toInt ≤ full.toInt) (hf : full.toInt ≤ 100000) (hr : 0 ≤ rate.toInt ∧ rate.toInt ≤ 1000) (ha : 0 ≤ all.toInt ∧ all.toInt ≤ 90000) : 0 ≤ (dGrown all g full rain rate).toInt ∧ (dGrown all g full rain rate).toInt ≤ full.toInt := by
  have tb := tread_b (rain := rain) hg ha
  unfold dGrown
  obtain ⟨t, ht⟩ : ∃ t, (if rain < 8 then g else (if 0 < (g - (all / 100)) then (g - (all / 100)) else 0)) = t := ⟨_, rfl⟩
  rw [ht] at tb ⊢
  have p0 : 0 ≤ rate.toInt * full.toInt := Int.mul_nonneg hr.1 (by omega)
  have p1 : rate.toInt * full.toInt ≤ 1000 * 100000 := Int.mul_le_mul hr.2 hf (by omega) (by decide)
  have em : (rate * full).toInt = rate.toInt * full.toInt := mul_ti (by omega) (by omega)
  have k1 : (1000 : Int32).toInt = 1000 := by decide
  have o1 : (1 : Int32).toInt = 1 := by decide
  have ed : (rate * full / 1000).toInt = rate.toInt * full.toInt / 1000 := by rw [div_ti (by omega) (by rw [k1]; decide), em, k1]
  unfold s_X3_grow
  obtain ⟨M, hM⟩ : ∃ m, (if (1 : Int32) < rate * full / 1000 then rate * full / 1000 else 1) = m := ⟨_, rfl⟩
  have Mb : 1 ≤ M.toInt ∧ M.toInt ≤ 100000 := by
    rw [← hM]
    split
    · rename_i q
      rw [Int32.lt_iff_toInt_lt, o1] at q
      rw [ed] at q ⊢
      omega
    · rw [o1]; omega
  rw [hM]
  have ea : (t + M).toInt = t.toInt + M.toInt := add_ti (by omega) (by omega)
  split
  · rename_i q
    rw [Int32.lt_iff_toInt_lt, ea] at q
    rw [ea]
    omega
  · omega
