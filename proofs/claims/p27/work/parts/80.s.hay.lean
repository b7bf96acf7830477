/-! hay is shared out -/
def shr (hay : Int32) (σ : St) (p o : Nat) : Int32 := ((hay.toInt64 * (ownS σ p o).toInt64) / (allS σ p).toInt64).toInt32
theorem re_hf {t x σm : St} (h : HF t x) (E : RE x σm) : RE t σm := by
  unfold RE at E ⊢
  rw [h 811 (by decide) (by decide) (by decide) (by decide) (by decide), h 812 (by decide) (by decide) (by decide) (by decide) (by decide), h 813 (by decide) (by decide) (by decide) (by decide) (by decide), h 814 (by decide) (by decide) (by decide) (by decide) (by decide), h 815 (by decide) (by decide) (by decide) (by decide) (by decide), h 816 (by decide) (by decide) (by decide) (by decide) (by decide), h 803 (by decide) (by decide) (by decide) (by decide) (by decide), h 0 (by decide) (by decide) (by decide) (by decide) (by decide), h 1 (by decide) (by decide) (by decide) (by decide) (by decide), h 2 (by decide) (by decide) (by decide) (by decide) (by decide), h 3 (by decide) (by decide) (by decide) (by decide) (by decide), h 5 (by decide) (by decide) (by decide) (by decide) (by decide), h 6 (by decide) (by decide) (by decide) (by decide) (by decide), h 8 (by decide) (by decide) (by decide) (by decide) (by decide), h 200 (by decide) (by decide) (by decide) (by decide) (by decide), h 201 (by decide) (by decide) (by decide) (by decide) (by decide), h 202 (by decide) (by decide) (by decide) (by decide) (by decide), h 203 (by decide) (by decide) (by decide) (by decide) (by decide)]
  exact E
theorem re_501 {t σm : St} {i : Nat} {x : Int32} (E : RE t σm) : RE (put t 501 i x) σm := E
theorem hx_eq {x σm : St} (E : RE x σm) (K : KR σm) (hpc : ∀ i : Nat, σm 25 i = 3 → x 4 i = σm 30 i) (W : KW σm) {p : Nat} (hp : p < 6) (hay : Int32) : (∀ j, s_X8_shareHay x (nI p) hay 501 j = if ¬ allS σm p ≤ 0 ∧ j < (σm 3 0).toNatClampNeg then x 501 j + shr hay σm p j else x 501 j) ∧ s_X8_shareHay x (nI p) hay 591 0 = x 591 0 + (if allS σm p ≤ 0 then hay else hay - Sm (shr hay σm p) (σm 3 0).toNatClampNeg) := by
  have e2 : x 812 = σm 3 := E.2.1
  obtain ⟨n, hn⟩ : ∃ n, (σm 3 0).toNatClampNeg = n := ⟨_, rfl⟩
  have one := it_ind (L := s_X8_shareHay_l5 (nI p)) (P := fun k (q : Int32 × St) => q.1 = Sm (fun o => ownS σm p o) k ∧ HF q.2 x) (s := ((0 : Int32), x)) ⟨rfl, fun _ _ _ _ _ _ => rfl⟩ n (fun k q _ ih => by
    obtain ⟨v, t⟩ := q
    obtain ⟨i1, i2⟩ := ih
    have i1 : v = Sm (fun o => ownS σm p o) k := i1
    have i2 : HF t x := i2
    unfold s_X8_shareHay_l5
    try dsimp only
    rw [pfh_eq (re_hf i2 E) K (fun i q => by rw [i2 4 (by decide) (by decide) (by decide) (by decide) (by decide)]; exact hpc i q) hp]
    refine ⟨?_, fun f a b c d e => ((cv_eq t (nI k)).1 f a b c d e).trans (i2 f a b c d e)⟩
    show v + ownS σm p k = Sm (fun o => ownS σm p o) k + ownS σm p k
    rw [i1])
  obtain ⟨q, hq⟩ : ∃ q, iter (s_X8_shareHay_l5 (nI p)) n 0 ((0 : Int32), x) = q := ⟨_, rfl⟩
  rw [hq] at one
  obtain ⟨v, t⟩ := q
  obtain ⟨o1, o2⟩ := one
  have o1 : v = allS σm p := by
    have o1 : v = Sm (fun o => ownS σm p o) n := o1
    rw [o1, ← hn, all_eq K W p]
  have o2 : HF t x := o2
  have t812 : (t 812 0).toNatClampNeg = n := by rw [o2 812 (by decide) (by decide) (by decide) (by decide) (by decide), e2, hn]
  obtain ⟨r, hr⟩ : ∃ r, iterC (s_X8_shareHay_l39 (nI p) hay v) n 0 (hay, t) = r := ⟨_, rfl⟩
  have eS : s_X8_shareHay x (nI p) hay = put r.2 591 0 (r.2 591 0 + r.1) := by
    unfold s_X8_shareHay
    rw [e2, hn, Nat.sub_zero, hq]
    unfold s_X8_shareHay_c5
    try dsimp only
    rw [t812, Nat.sub_zero, hr]
    obtain ⟨a, b⟩ := r
    rfl
  rw [eS, hn]
  have j501 : ∀ j, put r.2 591 0 (r.2 591 0 + r.1) 501 j = r.2 501 j := fun j => congrFun (put_fr (by decide)) j
  have j591 : put r.2 591 0 (r.2 591 0 + r.1) 591 0 = r.2 591 0 + r.1 := put_same
  rw [j591]
  by_cases ha : allS σm p ≤ 0
  · have er : r = (hay, t) := by
      rw [← hr]
      refine itC_stop ?_
      unfold s_X8_shareHay_l39
      try dsimp only
      rw [o1, if_pos ha]
    rw [er] at j501 ⊢
    refine ⟨fun j => ?_, ?_⟩
    · rw [j501 j, if_neg (fun z => z.1 ha)]
      exact congrFun (o2 501 (by decide) (by decide) (by decide) (by decide) (by decide)) j
    · rw [if_pos ha]
      show t 591 0 + hay = _
      rw [o2 591 (by decide) (by decide) (by decide) (by decide) (by decide)]
  · have two := itC_ind (L := s_X8_shareHay_l39 (nI p) hay v) (P := fun k (q : Int32 × St) => q.1 = hay - Sm (shr hay σm p) k ∧ RE q.2 σm ∧ q.2 4 = x 4 ∧ q.2 591 = x 591 ∧ ∀ j, q.2 501 j = if j < k then x 501 j + shr hay σm p j else x 501 j) n 0 (hay, t) ⟨by show hay = hay - 0; rw [Int32.sub_zero], re_hf o2 E, o2 4 (by decide) (by decide) (by decide) (by decide) (by decide), o2 591 (by decide) (by decide) (by decide) (by decide) (by decide), fun j => by rw [if_neg (Nat.not_lt_zero j)]; exact congrFun (o2 501 (by decide) (by decide) (by decide) (by decide) (by decide)) j⟩ (fun k q _ ih => by
      obtain ⟨w, y⟩ := q
      obtain ⟨i1, i2, i3, i4, i5⟩ := ih
      have i1 : w = hay - Sm (shr hay σm p) k := i1
      have i2 : RE y σm := i2
      have i3 : y 4 = x 4 := i3
      have i4 : y 591 = x 591 := i4
      have i5 : ∀ j, y 501 j = if j < k then x 501 j + shr hay σm p j else x 501 j := i5
      have cv := (cv_eq y (nI k)).1
      have c501 : s_X8_coverOf y (nI k) 501 = y 501 := cv 501 (by decide) (by decide) (by decide) (by decide) (by decide)
      refine ⟨(w - shr hay σm p k, put (s_X8_coverOf y (nI k)) 501 k (y 501 k + shr hay σm p k)), ?_, ?_, ?_, ?_, ?_, ?_⟩
      · unfold s_X8_shareHay_l39
        try dsimp only
        rw [o1, if_neg ha, pfh_eq i2 K (fun i q => by rw [i3]; exact hpc i q) hp, c501]
        rfl
      · show w - shr hay σm p k = hay - (Sm (shr hay σm p) k + shr hay σm p k)
        rw [i1, Int32.sub_sub]
      · exact re_501 (re_hf cv i2)
      · show s_X8_coverOf y (nI k) 4 = x 4
        rw [cv 4 (by decide) (by decide) (by decide) (by decide) (by decide), i3]
      · show s_X8_coverOf y (nI k) 591 = x 591
        rw [cv 591 (by decide) (by decide) (by decide) (by decide) (by decide), i4]
      · intro j
        show upd (s_X8_coverOf y (nI k) 501) k (y 501 k + shr hay σm p k) j = _
        rw [c501]
        by_cases hq : j = k
        · rw [hq, pk_us, i5 k, if_neg (Nat.lt_irrefl k), if_pos (Nat.lt_succ_self k)]
        · rw [pk_un hq, i5 j]
          by_cases h1 : j < k
          · rw [if_pos h1, if_pos (show j < k + 1 by omega)]
          · rw [if_neg h1, if_neg (show ¬ j < k + 1 by omega)])
    rw [Nat.zero_add, hr] at two
    obtain ⟨w1, w2, w3, w4, w5⟩ := two
    refine ⟨fun j => ?_, ?_⟩
    · rw [j501 j, w5 j]
      by_cases h1 : j < n
      · rw [if_pos h1, if_pos ⟨ha, h1⟩]
      · rw [if_neg h1, if_neg (fun z => h1 z.2)]
    · rw [w4, w1, if_neg ha]
theorem cts_fr {t σ : St} (h : ∀ f : Nat, f ≠ 13 → f ≠ 16 → f ≠ 20 → t f = σ f) (p r : Nat) : cts t p r = cts σ p r ∧ s_X9_ownerOfRight t (nI r) = s_X9_ownerOfRight σ (nI r) := by
  have hF : ∀ a, s_X9_isInForce t a = s_X9_isInForce σ a := fun a => by
    unfold s_X9_isInForce
    rw [h 33 (by decide) (by decide) (by decide), h 1 (by decide) (by decide) (by decide), h 28 (by decide) (by decide) (by decide), h 29 (by decide) (by decide) (by decide)]
  have hL : ∀ a, lent t a = lent σ a := fun a => by
    funext k
    unfold lent
    rw [h 31 (by decide) (by decide) (by decide), h 27 (by decide) (by decide) (by decide), hF]
  have hP : ∀ a, s_X9_partsOf t a = s_X9_partsOf σ a := fun a => by
    rw [pO_sum, pO_sum, hF, hL, h 27 (by decide) (by decide) (by decide), h 5 (by decide) (by decide) (by decide)]
  refine ⟨?_, ?_⟩
  · unfold cts s_X9_counts
    rw [h 25 (by decide) (by decide) (by decide), h 30 (by decide) (by decide) (by decide), hP]
  · unfold s_X9_ownerOfRight
    rw [h 25 (by decide) (by decide) (by decide), h 26 (by decide) (by decide) (by decide), h 21 (by decide) (by decide) (by decide)]
theorem hm_eq {σ : St} (K : KR σ) (n60 : (σ 5 0).toNatClampNeg ≤ 60) {p : Nat} (p31 : p < 2 ^ 31) {hay : Int32} (hhay : (if (0 : Int32) < σ 13 p - 100 then σ 13 p - 100 else 0) = hay) : (∀ j, (s_X9_cut_c125 σ (nI p) (iter (s_X9_cut_l125 σ (nI p)) (σ 5 0).toNatClampNeg 0 (0 : Int64))).2 20 j = if ¬ allS σ p ≤ 0 ∧ j < (σ 3 0).toNatClampNeg then σ 20 j + shr hay σ p j else σ 20 j) ∧ (s_X9_cut_c125 σ (nI p) (iter (s_X9_cut_l125 σ (nI p)) (σ 5 0).toNatClampNeg 0 (0 : Int64))).2 9 0 = σ 9 0 + (if allS σ p ≤ 0 then hay else hay - Sm (shr hay σ p) (σ 3 0).toNatClampNeg) := by
  obtain ⟨y0, hy0⟩ : ∃ y, put (put σ 13 p (σ 13 p - hay)) 16 p (σ 1 0 + 20) = y := ⟨_, rfl⟩
  have f0 : ∀ f : Nat, f ≠ 13 → f ≠ 16 → y0 f = σ f := fun f a b => by
    rw [← hy0]
    exact (put_fr b).trans (put_fr a)
  have v4 : iter (s_X9_cut_l125 σ (nI p)) (σ 5 0).toNatClampNeg 0 (0 : Int64) = (allS σ p).toInt64 := by
    refine s64 n60 (fun k hk => cts_b K n60 p (Nat.lt_trans hk (tn_lt _))) (fun k v hk => ?_)
    unfold s_X9_cut_l125
    try dsimp only
    rw [nI_clamp p31, hhay, hy0]
    rw [show s_X9_counts y0 (nI k) (nI p) = cts σ p k from (cts_fr (fun f a b _ => f0 f a b) p k).1]
  rw [v4]
  obtain ⟨n, hn⟩ : ∃ n, (σ 3 0).toNatClampNeg = n := ⟨_, rfl⟩
  obtain ⟨r, hr⟩ : ∃ r, iterC (s_X9_cut_l159 σ (nI p) (allS σ p).toInt64) n 0 (hay, y0) = r := ⟨_, rfl⟩
  have eS : (s_X9_cut_c125 σ (nI p) (allS σ p).toInt64).2 = put r.2 9 0 (r.2 9 0 + r.1) := by
    unfold s_X9_cut_c125
    try dsimp only
    rw [nI_clamp p31, hhay, hy0, hn, Nat.sub_zero, hr]
    obtain ⟨a, b⟩ := r
    rfl
  rw [eS, hn]
  have j20 : ∀ j, put r.2 9 0 (r.2 9 0 + r.1) 20 j = r.2 20 j := fun j => congrFun (put_fr (by decide)) j
  have j9 : put r.2 9 0 (r.2 9 0 + r.1) 9 0 = r.2 9 0 + r.1 := put_same
  rw [j9]
  have z64 : (0 : Int64) = (0 : Int32).toInt64 := by decide
  have cmp : (lg_cmp (allS σ p).toInt64 0 ≤ 0) ↔ allS σ p ≤ 0 := by
    rw [lg_cmp_le, z64, Int64.le_iff_toInt_le, Int32.le_iff_toInt_le, ti64, ti64]
  by_cases ha : allS σ p ≤ 0
  · have er : r = (hay, y0) := by
      rw [← hr]
      refine itC_stop ?_
      unfold s_X9_cut_l159
      try dsimp only
      rw [if_pos (cmp.mpr ha)]
    rw [er] at j20 ⊢
    refine ⟨fun j => ?_, ?_⟩
    · rw [j20 j, if_neg (fun z => z.1 ha)]
      exact congrFun (f0 20 (by decide) (by decide)) j
    · rw [if_pos ha]
      show y0 9 0 + hay = _
      rw [f0 9 (by decide) (by decide)]
  · have two := itC_ind (L := s_X9_cut_l159 σ (nI p) (allS σ p).toInt64) (P := fun k (q : Int32 × St) => q.1 = hay - Sm (shr hay σ p) k ∧ (∀ f : Nat, f ≠ 13 → f ≠ 16 → f ≠ 20 → q.2 f = σ f) ∧ ∀ j, q.2 20 j = if j < k then σ 20 j + shr hay σ p j else σ 20 j) n 0 (hay, y0) ⟨by show hay = hay - 0; rw [Int32.sub_zero], fun f a b _ => f0 f a b, fun j => by rw [if_neg (Nat.not_lt_zero j)]; exact congrFun (f0 20 (by decide) (by decide)) j⟩ (fun k q _ ih => by
      obtain ⟨w, y⟩ := q
      obtain ⟨i1, i2, i5⟩ := ih
      have i1 : w = hay - Sm (shr hay σ p) k := i1
      have i2 : ∀ f : Nat, f ≠ 13 → f ≠ 16 → f ≠ 20 → y f = σ f := i2
      have i5 : ∀ j, y 20 j = if j < k then σ 20 j + shr hay σ p j else σ 20 j := i5
      have own : iter (s_X9_cut_l181 (nI p) k y) (σ 5 0).toNatClampNeg 0 (0 : Int64) = (ownS σ p k).toInt64 := by
        refine s64 n60 (fun r hr => ?_) (fun r v hr => ?_)
        · have b := cts_b K n60 p (r := r) (Nat.lt_trans hr (tn_lt _))
          by_cases c : s_X9_ownerOfRight σ (nI r) = nI k
          · rw [if_pos c]
            exact b
          · rw [if_neg c, show (0 : Int32).toInt = 0 by decide]
            omega
        · have fr := cts_fr i2 p r
          have f1 : s_X9_counts y (nI r) (nI p) = cts σ p r := fr.1
          unfold s_X9_cut_l181
          try dsimp only
          rw [fr.2, f1]
          by_cases c : s_X9_ownerOfRight σ (nI r) = nI k
          · rw [if_pos c, if_pos c]
          · rw [if_neg c, if_neg c, z64]
      refine ⟨(w - shr hay σ p k, put y 20 k (y 20 k + shr hay σ p k)), ?_, ?_, ?_, ?_⟩
      · unfold s_X9_cut_l159
        try dsimp only
        rw [if_neg (fun z => ha (cmp.mp z)), i2 5 (by decide) (by decide) (by decide), Nat.sub_zero, own]
        unfold s_X9_cut_c181
        try dsimp only
        rw [nI_clamp p31, hhay]
        rfl
      · show w - shr hay σ p k = hay - (Sm (shr hay σ p) k + shr hay σ p k)
        rw [i1, Int32.sub_sub]
      · intro f a b c
        exact (put_fr c).trans (i2 f a b c)
      · intro j
        show upd (y 20) k (y 20 k + shr hay σ p k) j = _
        by_cases hq : j = k
        · rw [hq, pk_us, i5 k, if_neg (Nat.lt_irrefl k), if_pos (Nat.lt_succ_self k)]
        · rw [pk_un hq, i5 j]
          by_cases h1 : j < k
          · rw [if_pos h1, if_pos (show j < k + 1 by omega)]
          · rw [if_neg h1, if_neg (show ¬ j < k + 1 by omega)])
    rw [Nat.zero_add, hr] at two
    obtain ⟨w1, w2, w5⟩ := two
    refine ⟨fun j => ?_, ?_⟩
    · rw [j20 j, w5 j]
      by_cases h1 : j < n
      · rw [if_pos h1, if_pos ⟨ha, h1⟩]
      · rw [if_neg h1, if_neg (fun z => h1 z.2)]
    · rw [w2 9 (by decide) (by decide) (by decide), w1, if_neg ha]
