/-! rights lapse -/
def lapM (σ : St) (i : Nat) : Prop := ¬ s_X9_isInForce σ (nI i) = 0 ∧ ¬ (σ 1 0 - 100 < σ 28 i) ∧ (σ 32 i = -9 ∨ ¬ (σ 1 0 - 99 ≤ σ 32 i))
def lapX (σ : St) (i : Nat) : Prop := ¬ (σ 816 0 - σ 2 i < 100) ∧ ¬ s_X0_isInForce σ i (σ 816 0) = 0 ∧ ¬ (σ 816 0 - 100 < σ 7 i)
theorem l130_eq (σ : St) (n : Nat) : (∀ f : Nat, f ≠ 34 → iter s_X9_lapses_l130 n 0 σ f = σ f) ∧ ∀ i : Nat, i < n → (¬ iter s_X9_lapses_l130 n 0 σ 34 i = 0 ↔ lapM σ i) := by
  refine it_ind (L := s_X9_lapses_l130) (P := fun j (t : St) => (∀ f : Nat, f ≠ 34 → t f = σ f) ∧ ∀ i : Nat, i < j → (¬ t 34 i = 0 ↔ lapM σ i)) ⟨fun _ _ => rfl, fun i h => absurd h (Nat.not_lt_zero i)⟩ n (fun k t _ ih => ?_)
  obtain ⟨hf, hu⟩ := ih
  have set : ∀ v : Int32, (¬ v = 0 ↔ lapM σ k) → (∀ f : Nat, f ≠ 34 → put t 34 k v f = σ f) ∧ ∀ i : Nat, i < k + 1 → (¬ put t 34 k v 34 i = 0 ↔ lapM σ i) := by
    intro v hv
    refine ⟨fun f q => (put_fr q).trans (hf f q), fun i hi => ?_⟩
    by_cases hq : i = k
    · rw [hq, put_same]
      exact hv
    · rw [put_oth hq]
      exact hu i (by omega)
  unfold s_X9_lapses_l130
  try dsimp only
  rw [c3_fo (fun f a _ => hf f a), congrFun (hf 1 (by decide)) 0, congrFun (hf 28 (by decide)) k, congrFun (hf 32 (by decide)) k]
  by_cases a1 : s_X9_isInForce σ (nI k) = 0
  · rw [if_pos a1]
    exact set 0 ⟨fun q => absurd rfl q, fun q => absurd a1 q.1⟩
  · rw [if_neg a1]
    by_cases a2 : σ 1 0 - 100 < σ 28 k
    · rw [if_pos a2]
      exact set 0 ⟨fun q => absurd rfl q, fun q => absurd a2 q.2.1⟩
    · rw [if_neg a2]
      by_cases a3 : σ 32 k = -9
      · rw [if_pos a3]
        exact set 1 ⟨fun _ => ⟨a1, a2, Or.inl a3⟩, fun _ => by decide⟩
      · rw [if_neg a3]
        by_cases a4 : σ 1 0 - 99 ≤ σ 32 k
        · rw [if_pos a4]
          exact set 0 ⟨fun q => absurd rfl q, fun q => q.2.2.elim (fun w => absurd w a3) (fun w => absurd a4 w)⟩
        · rw [if_neg a4]
          exact set 1 ⟨fun _ => ⟨a1, a2, Or.inr a4⟩, fun _ => by decide⟩
theorem ls_eq (x0 y0 : St) (n : Nat) (e8 : x0 8 = y0 33) (e18 : x0 818 = y0 12) (hc : ∀ j : Nat, j < n → (lapX x0 j ↔ ¬ y0 34 j = 0)) : (∀ f : Nat, f ≠ 8 → f ≠ 818 → iter s_X8_lapse_l2 n 0 x0 f = x0 f) ∧ (∀ f : Nat, f ≠ 33 → f ≠ 12 → iter s_X9_lapses_l208 n 0 y0 f = y0 f) ∧ iter s_X8_lapse_l2 n 0 x0 8 = iter s_X9_lapses_l208 n 0 y0 33 ∧ iter s_X8_lapse_l2 n 0 x0 818 = iter s_X9_lapses_l208 n 0 y0 12 ∧ (∀ i : Nat, n ≤ i → iter s_X9_lapses_l208 n 0 y0 33 i = y0 33 i) ∧ (∀ i : Nat, iter s_X9_lapses_l208 n 0 y0 33 i = 0 → y0 33 i = 0) := by
  refine it_sim (L := s_X8_lapse_l2) (M := s_X9_lapses_l208) (P := fun j (x y : St) => (∀ f : Nat, f ≠ 8 → f ≠ 818 → x f = x0 f) ∧ (∀ f : Nat, f ≠ 33 → f ≠ 12 → y f = y0 f) ∧ x 8 = y 33 ∧ x 818 = y 12 ∧ (∀ i : Nat, j ≤ i → y 33 i = y0 33 i) ∧ (∀ i : Nat, y 33 i = 0 → y0 33 i = 0)) ⟨fun _ _ _ => rfl, fun _ _ _ => rfl, e8, e18, fun _ _ => rfl, fun _ h => h⟩ n (fun j x y hj ih => ?_)
  obtain ⟨h1, h2, h3, h4, h5, h6⟩ := ih
  have f816 := congrFun (h1 816 (by decide) (by decide)) 0
  have f2 := congrFun (h1 2 (by decide) (by decide)) j
  have f7 := congrFun (h1 7 (by decide) (by decide)) j
  have f8 : x 8 j = x0 8 j := by rw [h3, h5 j (Nat.le_refl j), e8]
  have fF : s_X0_isInForce x j (x0 816 0) = s_X0_isInForce x0 j (x0 816 0) := by
    unfold s_X0_isInForce
    rw [f8, h1 2 (by decide) (by decide), h1 3 (by decide) (by decide)]
  have f34 := congrFun (h2 34 (by decide) (by decide)) j
  have ey : s_X9_lapses_l208 j y = if y0 34 j = 0 then y else put (put y 33 j 1) 12 0 (y 12 0 + 1) := by
    unfold s_X9_lapses_l208
    try dsimp only
    rw [f34]
  have stay : y0 34 j = 0 → (∀ f : Nat, f ≠ 8 → f ≠ 818 → x f = x0 f) ∧ (∀ f : Nat, f ≠ 33 → f ≠ 12 → s_X9_lapses_l208 j y f = y0 f) ∧ x 8 = s_X9_lapses_l208 j y 33 ∧ x 818 = s_X9_lapses_l208 j y 12 ∧ (∀ i : Nat, j + 1 ≤ i → s_X9_lapses_l208 j y 33 i = y0 33 i) ∧ (∀ i : Nat, s_X9_lapses_l208 j y 33 i = 0 → y0 33 i = 0) := by
    intro z
    rw [ey, if_pos z]
    exact ⟨h1, h2, h3, h4, fun i hi => h5 i (by omega), h6⟩
  unfold s_X8_lapse_l2
  try dsimp only
  rw [f816, f2, f7, fF]
  by_cases a1 : x0 816 0 - x0 2 j < 100
  · rw [if_pos a1]
    exact stay (Decidable.byContradiction (fun q => ((hc j hj).mpr q).1 a1))
  · rw [if_neg a1]
    by_cases a2 : s_X0_isInForce x0 j (x0 816 0) = 0
    · rw [if_pos a2]
      exact stay (Decidable.byContradiction (fun q => ((hc j hj).mpr q).2.1 a2))
    · rw [if_neg a2]
      by_cases a3 : x0 816 0 - 100 < x0 7 j
      · rw [if_pos a3]
        exact stay (Decidable.byContradiction (fun q => ((hc j hj).mpr q).2.2 a3))
      · rw [if_neg a3, ey, if_neg ((hc j hj).mp ⟨a1, a2, a3⟩)]
        refine ⟨fun f p q => (put_fr q).trans ((put_fr p).trans (h1 f p q)), fun f p q => (put_fr q).trans ((put_fr p).trans (h2 f p q)), ?_, ?_, fun i hi => ?_, fun i hi => ?_⟩
        · show upd (x 8) j 1 = upd (y 33) j 1
          rw [h3]
        · show upd (x 818) 0 (x 818 0 + 1) = upd (y 12) 0 (y 12 0 + 1)
          rw [h4]
        · show upd (y 33) j 1 i = y0 33 i
          rw [pk_un (show i ≠ j by omega)]
          exact h5 i (by omega)
        · have hi : upd (y 33) j 1 i = 0 := hi
          by_cases hq : i = j
          · rw [hq, pk_us] at hi
            exact absurd hi (by decide)
          · rw [pk_un hq] at hi
            exact h6 i hi
theorem lp_iff {d f u : Int32} (hd : 0 ≤ d.toInt ∧ d.toInt ≤ 720) (hf : 0 ≤ f.toInt ∧ f.toInt ≤ 720) (hu : -9 ≤ u.toInt ∧ u.toInt ≤ 720) : (¬ (d - f < 100) ∧ ¬ (d - 100 < u)) ↔ (¬ (d - 100 < f) ∧ (u = -9 ∨ ¬ (d - 99 ≤ u))) := by
  have a : (100 : Int32).toInt = 100 := by decide
  have b : (99 : Int32).toInt = 99 := by decide
  have c : (-9 : Int32).toInt = -9 := by decide
  rw [Int32.lt_iff_toInt_lt, Int32.lt_iff_toInt_lt, Int32.lt_iff_toInt_lt, Int32.le_iff_toInt_le, ← Int32.toInt_inj, sub_ti (x := d) (y := f) (by omega) (by omega), sub_ti (x := d) (y := 100) (by rw [a]; omega) (by rw [a]; omega), sub_ti (x := d) (y := 99) (by rw [b]; omega) (by rw [b]; omega), a, b, c]
  omega
set_option maxHeartbeats 4000000 in
set_option maxRecDepth 20000 in
theorem rd_lapse {b : Int} {k : Nat} {σx σm : St} (R : RD b k σx σm) : RD b k (s_X8_lapse (s_X8_findUsed σx)) (s_X9_lapses σm) := by
  obtain ⟨h1, h2, h3, h4, h5, h6, h7, h8, h9, h10, h11⟩ := R
  have E := h1
  have K := h6
  obtain ⟨e1, e2, e3, e4, e5, e6, e7, e8, e9, e10, e11, e12, e13, e14, e15, e16, e17, e18⟩ := id h1
  obtain ⟨g1, g2, g3, g4, g5, g6, g7, g8, g9, g10⟩ := id h2
  have n31 := tn_lt (σm 5 0)
  have a814 : σx 814 0 = σm 5 0 := congrFun e4 0
  have a816 : σx 816 0 = σm 1 0 := congrFun e6 0
  have a5 : σx 5 = σm 31 := e12
  obtain ⟨u1, u2⟩ := fu_eq σx (fun q hq => by
    rw [a814] at hq
    rw [a5]
    rcases K.2.1 q hq with w | ⟨j, w1, w2, -⟩
    · exact Or.inl w
    · exact Or.inr ⟨j, w1, w2⟩)
  rw [a814, a816] at u2
  obtain ⟨v1, v2⟩ := lu_eq σm K
  obtain ⟨x1, hx1⟩ : ∃ x, s_X8_findUsed σx = x := ⟨_, rfl⟩
  obtain ⟨y1, hy1⟩ : ∃ y, iterD s_X9_lapses_l7 (σm 5 0).toNatClampNeg σm = y := ⟨_, rfl⟩
  rw [hx1] at u1 u2
  rw [hy1] at v1 v2
  have hus : ∀ i : Nat, σm 33 i = 0 → x1 7 i = y1 32 i := by
    intro i g0
    have iff : usX σx (σm 5 0).toNatClampNeg i ↔ (i < (σm 5 0).toNatClampNeg ∧ usd σm i) := by
      constructor
      · rintro (⟨w1, w2⟩ | ⟨q, w1, w2, w3, w4⟩)
        · exact ⟨w1, Or.inl ((ac_eq E K h3 h11 w1).mp w2)⟩
        · have aq := (ac_eq E K h3 h11 w1).mp w2
          rw [a5] at w3
          refine ⟨by omega, Or.inr ⟨?_, q, w4, w1, w3, aq⟩⟩
          have fq := act_f aq
          obtain ⟨l1, l2⟩ := h7.2.2.1 q i w1 w4 w3
          unfold s_X9_isInForce at fq ⊢
          rw [nI_clamp (by omega)] at fq ⊢
          rw [if_pos g0]
          by_cases gq : σm 33 q = 0
          · rw [if_pos gq] at fq
            by_cases d1 : σm 1 0 < σm 28 q
            · rw [if_pos d1] at fq
              exact absurd rfl fq
            · rw [if_neg d1] at fq
              by_cases d2 : σm 29 q < σm 1 0
              · rw [if_pos d2] at fq
                exact absurd rfl fq
              · have d3 : ¬ σm 1 0 < σm 28 i := by
                  rw [Int32.lt_iff_toInt_lt] at d1 ⊢
                  rw [Int32.le_iff_toInt_le] at l1
                  omega
                have d4 : ¬ σm 29 i < σm 1 0 := by
                  rw [Int32.lt_iff_toInt_lt] at d2 ⊢
                  rw [Int32.le_iff_toInt_le] at l2
                  omega
                rw [if_neg d3, if_neg d4]
                decide
          · rw [if_neg gq] at fq
            exact absurd rfl fq
      · rintro ⟨w1, w2 | ⟨-, q, q1, q2, q3, q4⟩⟩
        · exact Or.inl ⟨w1, (ac_eq E K h3 h11 w1).mpr w2⟩
        · exact Or.inr ⟨q, q2, (ac_eq E K h3 h11 q2).mpr q4, by rw [a5]; exact q3, q1⟩
    by_cases hu : usX σx (σm 5 0).toNatClampNeg i
    · rw [(u2 i).1 hu, (v2 i).1 (iff.mp hu)]
    · rw [(u2 i).2 hu, (v2 i).2 (fun w => hu (iff.mpr w))]
      exact h4 i g0
  have b32 : ∀ i : Nat, -9 ≤ (y1 32 i).toInt ∧ (y1 32 i).toInt ≤ 720 := by
    intro i
    by_cases hu : i < (σm 5 0).toNatClampNeg ∧ usd σm i
    · rw [(v2 i).1 hu]
      omega
    · rw [(v2 i).2 hu]
      exact (h7.2.2.2 i).2
  have y5 : y1 5 0 = σm 5 0 := congrFun (v1 5 (by decide) (by decide)) 0
  obtain ⟨w1, w2⟩ := l130_eq y1 (σm 5 0).toNatClampNeg
  obtain ⟨y2, hy2⟩ : ∃ y, iter s_X9_lapses_l130 (σm 5 0).toNatClampNeg 0 y1 = y := ⟨_, rfl⟩
  rw [hy2] at w1 w2
  have y25 : y2 5 0 = σm 5 0 := (congrFun (w1 5 (by decide)) 0).trans y5
  have x814 : x1 814 0 = σm 5 0 := (congrFun (u1 814 (by decide)) 0).trans a814
  have hc : ∀ j : Nat, j < (σm 5 0).toNatClampNeg → (lapX x1 j ↔ ¬ y2 34 j = 0) := by
    intro j hj
    rw [w2 j hj]
    have q1 : x1 816 0 = σm 1 0 := (congrFun (u1 816 (by decide)) 0).trans a816
    have q2 : x1 2 j = σm 28 j := (congrFun (u1 2 (by decide)) j).trans (congrFun e10 j)
    have q3 : s_X0_isInForce x1 j (σm 1 0) = s_X9_isInForce σm (nI j) := by
      rw [c7_fo u1, ← fo_eq E (by omega), e6]
    have q4 : s_X9_isInForce y1 (nI j) = s_X9_isInForce σm (nI j) := c3_fo v1 (nI j)
    have q5 : y1 1 0 = σm 1 0 := congrFun (v1 1 (by decide) (by decide)) 0
    have q6 : y1 28 j = σm 28 j := congrFun (v1 28 (by decide) (by decide)) j
    unfold lapX lapM
    rw [q1, q2, q3, q4, q5, q6]
    by_cases fo : s_X9_isInForce σm (nI j) = 0
    · exact ⟨fun w => absurd fo w.2.1, fun w => absurd fo w.1⟩
    · have g0 : σm 33 j = 0 := by
        refine Decidable.byContradiction (fun q => fo ?_)
        unfold s_X9_isInForce
        rw [nI_clamp (by omega), if_neg q]
      rw [hus j g0]
      have li := lp_iff (d := σm 1 0) (f := σm 28 j) (u := y1 32 j) h10 (h7.2.2.2 j).1 (b32 j)
      exact ⟨fun w => ⟨fo, li.mp ⟨w.1, w.2.2⟩⟩, fun w => ⟨(li.mpr w.2).1, fo, (li.mpr w.2).2⟩⟩
  have s8 : x1 8 = y2 33 := (u1 8 (by decide)).trans (e14.trans ((w1 33 (by decide)).trans (v1 33 (by decide) (by decide))).symm)
  have s18 : x1 818 = y2 12 := (u1 818 (by decide)).trans (g9.trans ((w1 12 (by decide)).trans (v1 12 (by decide) (by decide))).symm)
  obtain ⟨z1, z2, z3, z4, z5, z6⟩ := ls_eq x1 y2 (σm 5 0).toNatClampNeg s8 s18 hc
  have ex : s_X8_lapse (s_X8_findUsed σx) = iter s_X8_lapse_l2 (σm 5 0).toNatClampNeg 0 x1 := by
    unfold s_X8_lapse s_X8_lapse_c2
    rw [hx1, Nat.sub_zero, x814]
  have em : s_X9_lapses σm = iter s_X9_lapses_l208 (σm 5 0).toNatClampNeg 0 y2 := by
    unfold s_X9_lapses s_X9_lapses_c7 s_X9_lapses_c130 s_X9_lapses_c208
    rw [hy1]
    try dsimp only
    simp only [Nat.sub_zero, y5, hy2, y25]
  rw [ex, em]
  obtain ⟨X, hX⟩ : ∃ x, iter s_X8_lapse_l2 (σm 5 0).toNatClampNeg 0 x1 = x := ⟨_, rfl⟩
  obtain ⟨Y, hY⟩ : ∃ y, iter s_X9_lapses_l208 (σm 5 0).toNatClampNeg 0 y2 = y := ⟨_, rfl⟩
  rw [hX] at z1 z3 z4
  rw [hY] at z2 z3 z4 z5 z6
  rw [hX, hY]
  have fX : ∀ f : Nat, f ≠ 7 → f ≠ 8 → f ≠ 818 → X f = σx f := fun f p q r => (z1 f q r).trans (u1 f p)
  have fM : ∀ f : Nat, f ≠ 34 → f ≠ 32 → f ≠ 33 → f ≠ 12 → Y f = σm f := fun f p q r s => (z2 f r s).trans ((w1 f p).trans (v1 f p q))
  have g33 : ∀ i : Nat, y2 33 i = σm 33 i := fun i => congrFun ((w1 33 (by decide)).trans (v1 33 (by decide) (by decide))) i
  have m32 : ∀ i : Nat, Y 32 i = y1 32 i := fun i => congrFun ((z2 32 (by decide) (by decide)).trans (w1 32 (by decide))) i
  have x7 : ∀ i : Nat, X 7 i = x1 7 i := fun i => congrFun (z1 7 (by decide) (by decide)) i
  have x811 := fX 811 (by decide) (by decide) (by decide)
  have x812 := fX 812 (by decide) (by decide) (by decide)
  have x813 := fX 813 (by decide) (by decide) (by decide)
  have x814 := fX 814 (by decide) (by decide) (by decide)
  have x815 := fX 815 (by decide) (by decide) (by decide)
  have x816 := fX 816 (by decide) (by decide) (by decide)
  have x803 := fX 803 (by decide) (by decide) (by decide)
  have x0 := fX 0 (by decide) (by decide) (by decide)
  have x1 := fX 1 (by decide) (by decide) (by decide)
  have x2 := fX 2 (by decide) (by decide) (by decide)
  have x3 := fX 3 (by decide) (by decide) (by decide)
  have x5 := fX 5 (by decide) (by decide) (by decide)
  have x6 := fX 6 (by decide) (by decide) (by decide)
  have x200 := fX 200 (by decide) (by decide) (by decide)
  have x201 := fX 201 (by decide) (by decide) (by decide)
  have x202 := fX 202 (by decide) (by decide) (by decide)
  have x203 := fX 203 (by decide) (by decide) (by decide)
  have x206 := fX 206 (by decide) (by decide) (by decide)
  have x207 := fX 207 (by decide) (by decide) (by decide)
  have x400 := fX 400 (by decide) (by decide) (by decide)
  have x401 := fX 401 (by decide) (by decide) (by decide)
  have x402 := fX 402 (by decide) (by decide) (by decide)
  have x404 := fX 404 (by decide) (by decide) (by decide)
  have x500 := fX 500 (by decide) (by decide) (by decide)
  have x590 := fX 590 (by decide) (by decide) (by decide)
  have x700 := fX 700 (by decide) (by decide) (by decide)
  have x4 := fX 4 (by decide) (by decide) (by decide)
  have x204 := fX 204 (by decide) (by decide) (by decide)
  have x817 := fX 817 (by decide) (by decide) (by decide)
  have m2 := fM 2 (by decide) (by decide) (by decide) (by decide)
  have m3 := fM 3 (by decide) (by decide) (by decide) (by decide)
  have m4 := fM 4 (by decide) (by decide) (by decide) (by decide)
  have m5 := fM 5 (by decide) (by decide) (by decide) (by decide)
  have m6 := fM 6 (by decide) (by decide) (by decide) (by decide)
  have m1 := fM 1 (by decide) (by decide) (by decide) (by decide)
  have m21 := fM 21 (by decide) (by decide) (by decide) (by decide)
  have m25 := fM 25 (by decide) (by decide) (by decide) (by decide)
  have m27 := fM 27 (by decide) (by decide) (by decide) (by decide)
  have m28 := fM 28 (by decide) (by decide) (by decide) (by decide)
  have m29 := fM 29 (by decide) (by decide) (by decide) (by decide)
  have m31 := fM 31 (by decide) (by decide) (by decide) (by decide)
  have m26 := fM 26 (by decide) (by decide) (by decide) (by decide)
  have m35 := fM 35 (by decide) (by decide) (by decide) (by decide)
  have m36 := fM 36 (by decide) (by decide) (by decide) (by decide)
  have m37 := fM 37 (by decide) (by decide) (by decide) (by decide)
  have m38 := fM 38 (by decide) (by decide) (by decide) (by decide)
  have m41 := fM 41 (by decide) (by decide) (by decide) (by decide)
  have m42 := fM 42 (by decide) (by decide) (by decide) (by decide)
  have m14 := fM 14 (by decide) (by decide) (by decide) (by decide)
  have m15 := fM 15 (by decide) (by decide) (by decide) (by decide)
  have m18 := fM 18 (by decide) (by decide) (by decide) (by decide)
  have m16 := fM 16 (by decide) (by decide) (by decide) (by decide)
  have m19 := fM 19 (by decide) (by decide) (by decide) (by decide)
  have m8 := fM 8 (by decide) (by decide) (by decide) (by decide)
  have m22 := fM 22 (by decide) (by decide) (by decide) (by decide)
  have m30 := fM 30 (by decide) (by decide) (by decide) (by decide)
  have m39 := fM 39 (by decide) (by decide) (by decide) (by decide)
  refine ⟨⟨(x811.trans (e1.trans m2.symm)), (x812.trans (e2.trans m3.symm)), (x813.trans (e3.trans m4.symm)), (x814.trans (e4.trans m5.symm)), (x815.trans (e5.trans m6.symm)), (x816.trans (e6.trans m1.symm)), (x803.trans (e7.trans m21.symm)), (x0.trans (e8.trans m25.symm)), (x1.trans (e9.trans m27.symm)), (x2.trans (e10.trans m28.symm)), (x3.trans (e11.trans m29.symm)), (x5.trans (e12.trans m31.symm)), (x6.trans (e13.trans m26.symm)), z3, (x200.trans (e15.trans m35.symm)), (x201.trans (e16.trans m36.symm)), (x202.trans (e17.trans m37.symm)), (x203.trans (e18.trans m38.symm))⟩, ⟨(x206.trans (g1.trans m41.symm)), (x207.trans (g2.trans m42.symm)), (x400.trans (g3.trans m14.symm)), (x401.trans (g4.trans m15.symm)), (x402.trans (g5.trans m18.symm)), (x404.trans (g6.trans m16.symm)), (x500.trans (g7.trans m19.symm)), (x590.trans (g8.trans m8.symm)), z4, (x700.trans (g10.trans m22.symm))⟩, ?_, ?_, ?_, ?_, ?_, ?_, ?_, ?_, ?_⟩
  · unfold RP at h3 ⊢
    simp only [x4, m25, m30]
    exact h3
  · intro i q
    rw [x7, m32]
    exact hus i ((g33 i).symm.trans (z6 i q))
  · unfold RO at h5 ⊢
    simp only [x817, x204, m6, m38, m39]
    exact h5
  · unfold KR at h6 ⊢
    simp only [m25, m26, m4, m5, m31, m27, m30, m2, m6, m38]
    exact h6
  · refine ⟨?_, ?_, ?_, ?_⟩
    · simp only [m6, m41, m42]
      exact h7.1
    · intro i hi
      rw [m5] at hi
      rw [z5 i hi, g33]
      exact h7.2.1 i hi
    · simp only [m5, m31, m28, m29]
      exact h7.2.2.1
    · intro i
      rw [m28, m32]
      exact ⟨(h7.2.2.2 i).1, b32 i⟩
  · unfold KP at h8 ⊢
    simp only [m6, m41, m42, m1]
    exact h8
  · simp only [m36, m37]
    exact h9
  · simp only [m1]
    exact h10
  · simp only [m6, m41, m38]
    exact h11
/-! one day, both -/
theorem c152_2 (p : Int32 × St) : (s_X9_pass_c152 p).2 = s_X9_lapses (s_X9_sells p.2) := by
  obtain ⟨a, b⟩ := p
  rfl
theorem fr_152 {f : Nat} (h : f ≠ 40) (n : Nat) (p : Int32 × St) : (iter s_X9_pass_l152 n 0 p).2 f = p.2 f := iter_fr (P := fun s : Int32 × St => s.2 f) (L := s_X9_pass_l152) (fun k s => by
  obtain ⟨a, b⟩ := s
  exact put_fr h) n 0 p
theorem fr_101 {f : Nat} (h : f ≠ 17) (h2 : f ≠ 11) (n : Nat) (p : St) : (iter s_X9_pass_l101 n 0 p) f = p f := iter_fr (P := fun s : St => s f) (L := s_X9_pass_l101) (fun k s => (put_fr h2).trans (put_fr h)) n 0 p
theorem fr_57 {f : Nat} (h : f ≠ 46) (n : Nat) (p : St) : (iter s_X9_pass_l57 n 0 p) f = p f := iter_fr (P := fun s : St => s f) (L := s_X9_pass_l57) (fun k s => put_fr h) n 0 p
theorem rd_step {k : Nat} {vx vm : Int32} {σx σm : St} (j : Nat) (R : RD 30 k σx σm) (hd : (σm 1 0).toInt ≤ 719) : RD 30 k (s_X8_pass_l35 j (vx, σx)).2 (s_X9_pass_l35 j (vm, σm)).2 ∧ (s_X9_pass_l35 j (vm, σm)).2 1 0 = σm 1 0 + 1 := by
  have R1 := rd_day R hd
  obtain ⟨t0, ht0⟩ : ∃ t, put σm 1 0 (σm 1 0 + 1) = t := ⟨_, rfl⟩
  obtain ⟨s0, hs0⟩ : ∃ s, put σx 816 0 (σx 816 0 + 1) = s := ⟨_, rfl⟩
  have d0 : t0 1 0 = σm 1 0 + 1 := by
    rw [← ht0]
    exact put_same
  rw [ht0, hs0] at R1
  have ex : (s_X8_pass_l35 j (vx, σx)).2 = s_X8_lapse (s_X8_findUsed (s_X8_sellFromPound (s_X8_grazeAll s0).2)) := by
    unfold s_X8_pass_l35
    try dsimp only
    rw [hs0]
  obtain ⟨t1, ht1⟩ : ∃ t, iter s_X9_pass_l57 ((6 : Int32).toNatClampNeg - 0) 0 (s_X9_places t0) = t := ⟨_, rfl⟩
  obtain ⟨t2, ht2⟩ : ∃ t, s_X9_goesA t1 (t1 1 0) = t := ⟨_, rfl⟩
  obtain ⟨t3, ht3⟩ : ∃ t, iter s_X9_pass_l101 ((t2 2 0).toNatClampNeg - 0) 0 t2 = t := ⟨_, rfl⟩
  obtain ⟨t4, ht4⟩ : ∃ t, iter s_X9_pass_l152 ((t3 6 0).toNatClampNeg - 0) 0 (vm, t3) = t := ⟨_, rfl⟩
  have em : (s_X9_pass_l35 j (vm, σm)).2 = s_X9_lapses (s_X9_sells t4.2) := by
    unfold s_X9_pass_l35
    try dsimp only
    rw [ht0, ht1]
    unfold s_X9_pass_c57
    try dsimp only
    rw [ht2, ht3]
    unfold s_X9_pass_c101
    try dsimp only
    rw [ht4, c152_2]
  have f4 : ∀ f : Nat, f ≠ 40 → f ≠ 17 → f ≠ 11 → f ≠ 13 → f ≠ 43 → f ≠ 46 → f ≠ 45 → t4.2 f = t0 f := by
    intro f p1 p2 p3 p4 p5 p6 p7
    rw [← ht4, fr_152 p1]
    show t3 f = t0 f
    rw [← ht3, fr_101 p2 p3, ← ht2, fr_s_X9_goesA _ _ p4 p5 p6, ← ht1, fr_57 p6, fr_s_X9_places _ p7]
  have R2 : RD 31 k (s_X8_grazeAll s0).2 t4.2 := rd_cast R1 (fun f hf => fr_s_X8_grazeAll s0 (fun e => absurd (e ▸ hf) (by decide)) (fun e => absurd (e ▸ hf) (by decide)) (fun e => absurd (e ▸ hf) (by decide)) (fun e => absurd (e ▸ hf) (by decide)) (fun e => absurd (e ▸ hf) (by decide)) (fun e => absurd (e ▸ hf) (by decide)) (fun e => absurd (e ▸ hf) (by decide)) (fun e => absurd (e ▸ hf) (by decide)) (fun e => absurd (e ▸ hf) (by decide)) (fun e => absurd (e ▸ hf) (by decide))) (fun f hf => f4 f (fun e => absurd (e ▸ hf) (by decide)) (fun e => absurd (e ▸ hf) (by decide)) (fun e => absurd (e ▸ hf) (by decide)) (fun e => absurd (e ▸ hf) (by decide)) (fun e => absurd (e ▸ hf) (by decide)) (fun e => absurd (e ▸ hf) (by decide)) (fun e => absurd (e ▸ hf) (by decide)))
  have R3 := rd_sell R2
  have R4 := rd_lapse R3
  rw [ex, em]
  refine ⟨R4, ?_⟩
  have l1 : s_X9_lapses (s_X9_sells t4.2) 1 = s_X9_sells t4.2 1 := fr_s_X9_lapses _ (by decide) (by decide) (by decide) (by decide)
  have l2 : s_X9_sells t4.2 1 = t4.2 1 := fr_s_X9_sells _ (by decide) (by decide) (by decide)
  rw [l1, l2, f4 1 (by decide) (by decide) (by decide) (by decide) (by decide) (by decide) (by decide), d0]
theorem rlB_pass {k : Nat} {σx σm : St} (hk : k ≤ 511) (hI : IX σx) (hJ : IR σm) (hJR : JR σm) (hR : RelB k σx σm) (a1 : Int32) : RelB (k + 1) (s_X8_pass σx a1).2 (s_X9_pass σm a1).2 := by
  have a816 : σx 816 0 = σm 1 0 := congrFun hR.1.2.2.2.2.2.1 0
  have hd := ir_1 hJ
  unfold s_X8_pass s_X9_pass
  rw [a816]
  by_cases h1 : (1 : Int32) ≤ a1
  · by_cases h2 : a1 ≤ 720 - σm 1 0
    · simp only [if_pos h1, if_pos h2]
      have o1 : (1 : Int32).toInt = 1 := by decide
      have o7 : (720 : Int32).toInt = 720 := by decide
      rw [Int32.le_iff_toInt_le, o1] at h1
      rw [Int32.le_iff_toInt_le, sub_ti (by rw [o7]; omega) (by rw [o7]; omega), o7] at h2
      have na : ((a1.toNatClampNeg - 0 : Nat) : Int) = a1.toInt := by
        rw [Nat.sub_zero, tn_toInt]
        omega
      have key := it_sim (L := s_X8_pass_l35) (M := s_X9_pass_l35) (P := fun j (x y : Int32 × St) => RD 30 k x.2 y.2 ∧ (y.2 1 0).toInt = (σm 1 0).toInt + (j : Int)) (s := (0, σx)) (t := (0, σm)) ⟨rd_of hJ hJR hR, by show (σm 1 0).toInt = (σm 1 0).toInt + ((0 : Nat) : Int); omega⟩ (a1.toNatClampNeg - 0) (fun j x y hj ih => by
        obtain ⟨vx, x⟩ := x
        obtain ⟨vm, y⟩ := y
        obtain ⟨i1, i2⟩ := ih
        have i2 : (y 1 0).toInt = (σm 1 0).toInt + (j : Int) := i2
        obtain ⟨r1, r2⟩ := rd_step (vx := vx) (vm := vm) j i1 (show (y 1 0).toInt ≤ 719 by omega)
        refine ⟨r1, ?_⟩
        rw [r2, add_ti (by rw [o1]; omega) (by rw [o1]; omega), o1, i2]
        omega)
      obtain ⟨px, hpx⟩ : ∃ p, iter s_X8_pass_l35 (a1.toNatClampNeg - 0) 0 ((0 : Int32), σx) = p := ⟨_, rfl⟩
      obtain ⟨pm, hpm⟩ : ∃ p, iter s_X9_pass_l35 (a1.toNatClampNeg - 0) 0 ((0 : Int32), σm) = p := ⟨_, rfl⟩
      rw [hpx, hpm] at key ⊢
      obtain ⟨vx, x⟩ := px
      obtain ⟨vm, y⟩ := pm
      exact rel_cast (rd_to key.1) (fun f hf => rfl) (fun f hf => put_fr (fun e => absurd (e ▸ hf) (by decide)))
    · simp only [if_pos h1, if_neg h2]
      exact rel_ref hR _ _
  · simp only [if_neg h1]
    exact rel_ref hR _ _
