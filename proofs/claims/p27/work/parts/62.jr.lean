theorem JR_A {σ τ : St} (J : JR σ) (h6 : τ 6 0 = σ 6 0) (h7 : τ 7 0 = σ 7 0) (h15 : ∀ k : Nat, 0 ≤ (τ 15 k).toInt) (ho : ∀ h : Nat, oP τ h → oP σ h ∧ τ 39 h = σ 39 h) (hs : ∀ h : Nat, h < (σ 6 0).toNatClampNeg → ¬ τ 41 h = 0 → τ 38 h < 0) : JR τ := by
  refine ⟨h15, fun h hh g => ?_, fun h j hh hj hne g1 g2 => ?_, fun h hh g => ?_⟩
  · rw [h6] at hh
    obtain ⟨a, b⟩ := ho h g
    rw [h7, b]
    exact J.2.1 h hh a
  · rw [h6] at hh hj
    obtain ⟨a, b⟩ := ho h g1
    obtain ⟨c, d⟩ := ho j g2
    rw [b, d]
    exact J.2.2.1 h j hh hj hne a c
  · rw [h6] at hh
    exact hs h hh g
theorem JR_B {σ τ : St} (q : Nat) (hb : (σ 7 0).toInt < 1000000) (J : JR σ) (h6 : τ 6 0 = σ 6 0) (h7 : τ 7 0 = σ 7 0 + 1) (h15 : ∀ k : Nat, 0 ≤ (τ 15 k).toInt) (hq : τ 39 q = σ 7 0) (ho : ∀ h : Nat, h ≠ q → oP τ h → oP σ h ∧ τ 39 h = σ 39 h) (hs : ∀ h : Nat, h < (σ 6 0).toNatClampNeg → ¬ τ 41 h = 0 → τ 38 h < 0) : JR τ := by
  have e1 : (1 : Int32).toInt = 1 := by decide
  have hl := (σ 7 0).le_toInt
  have e7 : (σ 7 0 + 1).toInt = (σ 7 0).toInt + 1 := by rw [add_ti (by rw [e1]; omega) (by rw [e1]; omega), e1]
  refine ⟨h15, fun h hh g => ?_, fun h j hh hj hne g1 g2 => ?_, fun h hh g => ?_⟩
  · rw [h6] at hh
    rw [h7, Int32.le_iff_toInt_le, e7]
    by_cases e : h = q
    · rw [e, hq]; omega
    · obtain ⟨a, b⟩ := ho h e g
      have c := J.2.1 h hh a
      rw [Int32.le_iff_toInt_le] at c
      rw [b]
      omega
  · rw [h6] at hh hj
    by_cases e : h = q
    · have e2 : j ≠ q := fun x => hne (e.trans x.symm)
      obtain ⟨a, b⟩ := ho j e2 g2
      have c := J.2.1 j hj a
      rw [e, hq, b]
      exact fun x => c (by rw [x]; exact Int32.le_refl _)
    · obtain ⟨a, b⟩ := ho h e g1
      by_cases e2 : j = q
      · have c := J.2.1 h hh a
        rw [e2, hq, b]
        exact fun x => c (by rw [x]; exact Int32.le_refl _)
      · obtain ⟨a2, b2⟩ := ho j e2 g2
        rw [b, b2]
        exact J.2.2.1 h j hh hj hne a a2
  · rw [h6] at hh
    exact hs h hh g
theorem JR_cast {σ τ : St} (J : JR σ) (h6 : τ 6 = σ 6) (h7 : τ 7 = σ 7) (h15 : τ 15 = σ 15) (h38 : τ 38 = σ 38) (h39 : τ 39 = σ 39) (h41 : τ 41 = σ 41) : JR τ := by
  unfold JR oP at J ⊢
  rw [h6, h7, h15, h38, h39, h41]
  exact J
theorem jr_refuse {σ : St} (J : JR σ) (c : Int32) : JR (s_X9_refuse σ c).2 := JR_cast J rfl rfl rfl rfl rfl rfl
theorem jr_piece {σ : St} (J : JR σ) (a1 a2 a3 a4 : Int32) : JR (s_X9_piece σ a1 a2 a3 a4).2 := by
  unfold s_X9_piece
  (repeat' split) <;> first | with_reducible exact jr_refuse J _ | skip
  rename_i g1 g2 g3 g4 g5 g6 g7
  refine JR_A J rfl rfl (fun k => ?_) (fun h g => ⟨g, rfl⟩) (fun h hh g => J.2.2.2 h hh g)
  show 0 ≤ (upd (σ 15) (σ 2 0).toNatClampNeg a3 k).toInt
  by_cases e : k = (σ 2 0).toNatClampNeg
  · subst e
    rw [pk_us]
    rw [Int32.lt_iff_toInt_lt, show (0 : Int32).toInt = 0 from by decide] at g2
    omega
  · rw [pk_un e]; exact J.1 k
theorem jr_herd {σ : St} (hI : IR σ) (J : JR σ) (a1 a2 a3 : Int32) : JR (s_X9_herd σ a1 a2 a3).2 := by
  unfold s_X9_herd
  (repeat' split) <;> first | with_reducible exact jr_refuse J _ | skip
  rename_i g1 g2 g3 g4 g5
  have hn := ix_cnt (ir_6 hI) g5 (by decide)
  have hs : (σ 6 0 + 1).toNatClampNeg = (σ 6 0).toNatClampNeg + 1 := by
    rw [vp_in_iff] at hn
    have e1 : (1 : Int32).toInt = 1 := by decide
    rw [tn_toInt, tn_toInt, add_ti (by rw [e1]; omega) (by rw [e1]; omega), e1]
    omega
  have key : ∀ h : Nat, h < (σ 6 0 + 1).toNatClampNeg → oP (put (put (put (put (put σ 35 (σ 6 0).toNatClampNeg a1) 36 (σ 6 0).toNatClampNeg a2) 37 (σ 6 0).toNatClampNeg a3) 38 (σ 6 0).toNatClampNeg (-1 : Int32)) 6 0 (σ 6 0 + 1)) h → h < (σ 6 0).toNatClampNeg ∧ oP σ h := by
    intro h hh g
    rw [hs] at hh
    have g2 : ¬ upd (σ 38) (σ 6 0).toNatClampNeg (-1 : Int32) h < 0 := g.2
    by_cases e : h = (σ 6 0).toNatClampNeg
    · subst e
      rw [pk_us] at g2
      exact absurd (by decide) g2
    · rw [pk_un e] at g2
      exact ⟨by omega, g.1, g2⟩
  refine ⟨J.1, fun h hh g => ?_, fun h j hh hj hne g1 g2 => ?_, fun h hh g => ?_⟩
  · obtain ⟨a, b⟩ := key h hh g
    exact J.2.1 h a b
  · obtain ⟨a, b⟩ := key h hh g1
    obtain ⟨c, d⟩ := key j hj g2
    exact J.2.2.1 h j a c hne b d
  · have hh : h < (σ 6 0 + 1).toNatClampNeg := hh
    rw [hs] at hh
    show upd (σ 38) (σ 6 0).toNatClampNeg (-1 : Int32) h < 0
    by_cases e : h = (σ 6 0).toNatClampNeg
    · subst e; rw [pk_us]; decide
    · rw [pk_un e]; exact J.2.2.2 h (by omega) g
theorem jr_goes {σ : St} (J : JR σ) (hb : (σ 7 0).toInt < 1000000) {q : Nat} (p : Int32) (h41 : σ 41 q = 0) : JR (put (put (put σ 38 q p) 39 q (σ 7 0)) 7 0 (σ 7 0 + 1)) := by
  refine JR_B q hb J rfl rfl J.1 ?_ (fun h hne g => ?_) (fun h hh g => ?_)
  · show upd (σ 39) q (σ 7 0) q = σ 7 0
    exact pk_us
  · have g2 : ¬ upd (σ 38) q p h < 0 := g.2
    rw [pk_un hne] at g2
    exact ⟨⟨g.1, g2⟩, by show upd (σ 39) q (σ 7 0) h = σ 39 h; exact pk_un hne⟩
  · show upd (σ 38) q p h < 0
    have g : ¬ σ 41 h = 0 := g
    by_cases e : h = q
    · subst e; exact absurd h41 g
    · rw [pk_un e]; exact J.2.2.2 h hh g
theorem jr_back {σ : St} (J : JR σ) (q : Nat) (p : Int32) : JR (put (put σ 38 q p) 38 q (-1 : Int32)) := by
  refine JR_A J rfl rfl J.1 (fun h g => ?_) (fun h hh g => ?_)
  · have g2 : ¬ upd (upd (σ 38) q p) q (-1 : Int32) h < 0 := g.2
    by_cases e : h = q
    · subst e; rw [pk_us] at g2; exact absurd (by decide) g2
    · rw [pk_un e, pk_un e] at g2; exact ⟨⟨g.1, g2⟩, rfl⟩
  · show upd (upd (σ 38) q p) q (-1 : Int32) h < 0
    by_cases e : h = q
    · subst e; rw [pk_us]; decide
    · rw [pk_un e, pk_un e]; exact J.2.2.2 h hh g
theorem jr_put {σ : St} (J : JR σ) (hb : (σ 7 0).toInt < 1000000) (a1 a2 : Int32) : JR (s_X9_put σ a1 a2).2 := by
  unfold s_X9_put
  split
  · exact jr_refuse J _
  · split
    · exact jr_refuse J _
    · split
      · rename_i g3
        split
        · exact jr_refuse J _
        · split
          · split
            · exact jr_goes J hb a2 g3
            · exact jr_refuse (jr_back J a1.toNatClampNeg a2) _
          · exact jr_refuse J _
      · exact jr_refuse J _
theorem jr_off {σ : St} (J : JR σ) {q : Nat} {p : Int32} (hp : p < 0) : JR (put σ 38 q p) := by
  refine JR_A J rfl rfl J.1 (fun h g => ?_) (fun h hh g => ?_)
  · have g2 : ¬ upd (σ 38) q p h < 0 := g.2
    by_cases e : h = q
    · subst e; rw [pk_us] at g2; exact absurd hp g2
    · rw [pk_un e] at g2; exact ⟨⟨g.1, g2⟩, rfl⟩
  · show upd (σ 38) q p h < 0
    by_cases e : h = q
    · subst e; rw [pk_us]; exact hp
    · rw [pk_un e]; exact J.2.2.2 h hh g
theorem jr_drive {σ : St} (J : JR σ) (hb : (σ 7 0).toInt < 1000000) (a1 a2 : Int32) : JR (s_X9_drive σ a1 a2).2 := by
  unfold s_X9_drive
  split
  · exact jr_refuse J _
  · split
    · split
      · rename_i g3
        split
        · exact jr_refuse J _
        · split
          · rename_i g5
            exact jr_off J g5
          · split
            · split
              · exact jr_refuse J _
              · exact jr_goes J hb a2 g3
            · exact jr_refuse J _
      · exact jr_refuse J _
    · split
      · exact jr_refuse J _
      · split
        · rename_i g3
          split
          · exact jr_refuse J _
          · split
            · rename_i g5
              exact jr_off J g5
            · split
              · split
                · exact jr_refuse J _
                · exact jr_goes J hb a2 g3
              · exact jr_refuse J _
        · exact jr_refuse J _
theorem jr_pound {σ : St} (J : JR σ) (a1 : Int32) : JR (s_X9_pound σ a1).2 := by
  unfold s_X9_pound
  (repeat' split) <;> first | with_reducible exact jr_refuse J _ | skip
  refine JR_A J rfl rfl J.1 (fun h g => ?_) (fun h hh g => ?_)
  · have g1 : upd (σ 41) a1.toNatClampNeg (1 : Int32) h = 0 := g.1
    have g2 : ¬ upd (σ 38) a1.toNatClampNeg (-1 : Int32) h < 0 := g.2
    by_cases e : h = a1.toNatClampNeg
    · subst e; rw [pk_us] at g1; exact absurd g1 (by decide)
    · rw [pk_un e] at g1 g2; exact ⟨⟨g1, g2⟩, rfl⟩
  · have g : ¬ upd (σ 41) a1.toNatClampNeg (1 : Int32) h = 0 := g
    show upd (σ 38) a1.toNatClampNeg (-1 : Int32) h < 0
    by_cases e : h = a1.toNatClampNeg
    · subst e; rw [pk_us]; decide
    · rw [pk_un e] at g ⊢; exact J.2.2.2 h hh g
theorem jr_free {σ : St} (hI : IR σ) (J : JR σ) (a1 : Int32) : JR (s_X9_free σ a1).2 := by
  unfold s_X9_free
  (repeat' split) <;> first | with_reducible exact jr_refuse J _ | skip
  rename_i g1 g2 g3
  have hin := vp_in_iff.mp (ix_isIn g1 (ir_6 hI))
  have hlt : a1.toNatClampNeg < (σ 6 0).toNatClampNeg := by
    have hs : (σ 6 0).toInt.toNat < 2 ^ 31 := by have := (σ 6 0).toInt_lt; omega
    have h2 := vp_in_iff.mp (ix_isIn (N := (σ 6 0).toInt.toNat) g1 ⟨(ir_6 hI).1, by have := (ir_6 hI).1; omega⟩)
    rw [tn_toInt, tn_toInt]
    omega
  have hp := J.2.2.2 _ hlt (by rw [g2]; decide)
  refine JR_A J rfl rfl J.1 (fun h g => ?_) (fun h hh g => ?_)
  · have e1 : upd (σ 41) a1.toNatClampNeg (0 : Int32) h = 0 := g.1
    by_cases e : h = a1.toNatClampNeg
    · subst e; exact absurd hp g.2
    · rw [pk_un e] at e1; exact ⟨⟨e1, g.2⟩, rfl⟩
  · have e1 : ¬ upd (σ 41) a1.toNatClampNeg (0 : Int32) h = 0 := g
    by_cases e : h = a1.toNatClampNeg
    · subst e; rw [pk_us] at e1; exact absurd rfl e1
    · rw [pk_un e] at e1; exact J.2.2.2 h hh e1
theorem sells_41 (σ : St) : ∀ n k (s : St), ∀ h : Nat, (iter s_X9_sells_l2 n k s) 41 h = 0 ↔ s 41 h = 0 := by
  intro n
  induction n with
  | zero => intro k s h; exact Iff.rfl
  | succ n ih =>
    intro k s h
    refine (ih (k + 1) (s_X9_sells_l2 k s) h).trans ?_
    unfold s_X9_sells_l2
    (try dsimp only)
    split
    · rename_i g
      split
      · show upd (s 41) k (2 : Int32) h = 0 ↔ s 41 h = 0
        by_cases e : h = k
        · subst e
          rw [pk_us, g]
          decide
        · rw [pk_un e]
      · exact Iff.rfl
    · exact Iff.rfl
theorem jr_sells {σ : St} (J : JR σ) : JR (s_X9_sells σ) := by
  have h41 : ∀ h : Nat, s_X9_sells σ 41 h = 0 ↔ σ 41 h = 0 := fun h => sells_41 σ _ _ σ h
  have f := fun (f : Nat) (a : f ≠ 8) (b : f ≠ 19) (c : f ≠ 41) => fr_s_X9_sells σ (f := f) a b c
  refine JR_A J (congrFun (f 6 (by decide) (by decide) (by decide)) 0) (congrFun (f 7 (by decide) (by decide) (by decide)) 0) (fun k => ?_) (fun h g => ?_) (fun h hh g => ?_)
  · rw [f 15 (by decide) (by decide) (by decide)]; exact J.1 k
  · have g2 := g.2
    rw [f 38 (by decide) (by decide) (by decide)] at g2
    exact ⟨⟨(h41 h).mp g.1, g2⟩, congrFun (f 39 (by decide) (by decide) (by decide)) h⟩
  · rw [f 38 (by decide) (by decide) (by decide)]
    exact J.2.2.2 h hh (fun e => g ((h41 h).mpr e))
theorem jr_pass_l35 (k : Nat) (s : Int32 × St) (J : JR s.2) : JR (s_X9_pass_l35 k s).2 := by
  obtain ⟨v, τ⟩ := s
  have J : JR τ := J
  have J0 : JR (put τ 1 0 (τ 1 0 + 1)) := JR_cast J rfl rfl rfl rfl rfl rfl
  have J1 : JR (s_X9_places (put τ 1 0 (τ 1 0 + 1))) := (JR_cast J0 (fr_s_X9_places (put τ 1 0 (τ 1 0 + 1)) (f := 6) (by decide)) (fr_s_X9_places (put τ 1 0 (τ 1 0 + 1)) (f := 7) (by decide)) (fr_s_X9_places (put τ 1 0 (τ 1 0 + 1)) (f := 15) (by decide)) (fr_s_X9_places (put τ 1 0 (τ 1 0 + 1)) (f := 38) (by decide)) (fr_s_X9_places (put τ 1 0 (τ 1 0 + 1)) (f := 39) (by decide)) (fr_s_X9_places (put τ 1 0 (τ 1 0 + 1)) (f := 41) (by decide)))
  have it1 : ∀ f : Nat, f ≠ 46 → ∀ n k (s : St), iter s_X9_pass_l57 n k s f = s f := fun f hf => iter_fr (P := fun s : St => s f) (fun k s => put_fr hf)
  have it2 : ∀ f : Nat, f ≠ 17 → f ≠ 11 → ∀ n k (s : St), iter s_X9_pass_l101 n k s f = s f := fun f hf hg => iter_fr (P := fun s : St => s f) (fun k s => (put_fr hg).trans (put_fr hf))
  have it3 : ∀ f : Nat, f ≠ 40 → ∀ n k (s : Int32 × St), (iter s_X9_pass_l152 n k s).2 f = s.2 f := fun f hf => iter_fr (P := fun s : Int32 × St => s.2 f) (fun k s => put_fr hf)
  show JR (s_X9_pass_c57 v (iter s_X9_pass_l57 ((6 : Int32).toNatClampNeg - 0) 0 (s_X9_places (put τ 1 0 (τ 1 0 + 1))))).2
  generalize s_X9_places (put τ 1 0 (τ 1 0 + 1)) = τ1 at J1
  have J2 : JR (iter s_X9_pass_l57 ((6 : Int32).toNatClampNeg - 0) 0 τ1) := JR_cast J1 (it1 6 (by decide) _ _ _) (it1 7 (by decide) _ _ _) (it1 15 (by decide) _ _ _) (it1 38 (by decide) _ _ _) (it1 39 (by decide) _ _ _) (it1 41 (by decide) _ _ _)
  generalize iter s_X9_pass_l57 ((6 : Int32).toNatClampNeg - 0) 0 τ1 = τ2 at J2
  have J3 : JR (s_X9_goesA τ2 (τ2 1 0)) := (JR_cast J2 (fr_s_X9_goesA τ2 (τ2 1 0) (f := 6) (by decide) (by decide) (by decide)) (fr_s_X9_goesA τ2 (τ2 1 0) (f := 7) (by decide) (by decide) (by decide)) (fr_s_X9_goesA τ2 (τ2 1 0) (f := 15) (by decide) (by decide) (by decide)) (fr_s_X9_goesA τ2 (τ2 1 0) (f := 38) (by decide) (by decide) (by decide)) (fr_s_X9_goesA τ2 (τ2 1 0) (f := 39) (by decide) (by decide) (by decide)) (fr_s_X9_goesA τ2 (τ2 1 0) (f := 41) (by decide) (by decide) (by decide)))
  show JR (s_X9_pass_c101 v (iter s_X9_pass_l101 (((s_X9_goesA τ2 (τ2 1 0)) 2 0).toNatClampNeg - 0) 0 (s_X9_goesA τ2 (τ2 1 0)))).2
  generalize s_X9_goesA τ2 (τ2 1 0) = τ3 at J3
  have J4 : JR (iter s_X9_pass_l101 ((τ3 2 0).toNatClampNeg - 0) 0 τ3) := JR_cast J3 (it2 6 (by decide) (by decide) _ _ _) (it2 7 (by decide) (by decide) _ _ _) (it2 15 (by decide) (by decide) _ _ _) (it2 38 (by decide) (by decide) _ _ _) (it2 39 (by decide) (by decide) _ _ _) (it2 41 (by decide) (by decide) _ _ _)
  generalize iter s_X9_pass_l101 ((τ3 2 0).toNatClampNeg - 0) 0 τ3 = τ4 at J4
  show JR (s_X9_pass_c152 (iter s_X9_pass_l152 ((τ4 6 0).toNatClampNeg - 0) 0 (v, τ4))).2
  have J5 : JR (iter s_X9_pass_l152 ((τ4 6 0).toNatClampNeg - 0) 0 (v, τ4)).2 := JR_cast J4 (it3 6 (by decide) _ _ _) (it3 7 (by decide) _ _ _) (it3 15 (by decide) _ _ _) (it3 38 (by decide) _ _ _) (it3 39 (by decide) _ _ _) (it3 41 (by decide) _ _ _)
  generalize iter s_X9_pass_l152 ((τ4 6 0).toNatClampNeg - 0) 0 (v, τ4) = s5 at J5
  obtain ⟨v5, τ5⟩ := s5
  have J6 := jr_sells J5
  show JR (s_X9_lapses (s_X9_sells τ5))
  have J6 : JR (s_X9_sells τ5) := J6
  generalize s_X9_sells τ5 = τ6 at J6
  exact (JR_cast J6 (fr_s_X9_lapses τ6 (f := 6) (by decide) (by decide) (by decide) (by decide)) (fr_s_X9_lapses τ6 (f := 7) (by decide) (by decide) (by decide) (by decide)) (fr_s_X9_lapses τ6 (f := 15) (by decide) (by decide) (by decide) (by decide)) (fr_s_X9_lapses τ6 (f := 38) (by decide) (by decide) (by decide) (by decide)) (fr_s_X9_lapses τ6 (f := 39) (by decide) (by decide) (by decide) (by decide)) (fr_s_X9_lapses τ6 (f := 41) (by decide) (by decide) (by decide) (by decide)))
theorem jr_pass {σ : St} (J : JR σ) (a1 : Int32) : JR (s_X9_pass σ a1).2 := by
  unfold s_X9_pass
  split
  · split
    · have key : ∀ n k (s : Int32 × St), JR s.2 → JR (iter s_X9_pass_l35 n k s).2 := by
        intro n
        induction n with
        | zero => intro k s h; exact h
        | succ n ih => intro k s h; exact ih (k + 1) _ (jr_pass_l35 k s h)
      have h := key (a1.toNatClampNeg - 0) 0 ((0 : Int32), σ) J
      generalize iter s_X9_pass_l35 (a1.toNatClampNeg - 0) 0 ((0 : Int32), σ) = s at h
      obtain ⟨v, τ⟩ := s
      exact JR_cast (τ := put τ 10 0 (τ 10 0 + v)) h rfl rfl rfl rfl rfl rfl
    · exact jr_refuse J _
  · exact jr_refuse J _
theorem jr_owner {σ : St} (J : JR σ) (a1 : Int32) : JR (s_X9_owner σ a1).2 := (JR_cast J (fr_s_X9_owner σ a1 (f := 6) (by decide) (by decide) (by decide)) (fr_s_X9_owner σ a1 (f := 7) (by decide) (by decide) (by decide)) (fr_s_X9_owner σ a1 (f := 15) (by decide) (by decide) (by decide)) (fr_s_X9_owner σ a1 (f := 38) (by decide) (by decide) (by decide)) (fr_s_X9_owner σ a1 (f := 39) (by decide) (by decide) (by decide)) (fr_s_X9_owner σ a1 (f := 41) (by decide) (by decide) (by decide)))
theorem jr_house {σ : St} (J : JR σ) (a1 : Int32) : JR (s_X9_house σ a1).2 := (JR_cast J (fr_s_X9_house σ a1 (f := 6) (by decide) (by decide) (by decide)) (fr_s_X9_house σ a1 (f := 7) (by decide) (by decide) (by decide)) (fr_s_X9_house σ a1 (f := 15) (by decide) (by decide) (by decide)) (fr_s_X9_house σ a1 (f := 38) (by decide) (by decide) (by decide)) (fr_s_X9_house σ a1 (f := 39) (by decide) (by decide) (by decide)) (fr_s_X9_house σ a1 (f := 41) (by decide) (by decide) (by decide)))
theorem jr_rate {σ : St} (J : JR σ) (a1 a2 a3 : Int32) : JR (s_X9_rate σ a1 a2 a3).2 := (JR_cast J (fr_s_X9_rate σ a1 a2 a3 (f := 6) (by decide) (by decide)) (fr_s_X9_rate σ a1 a2 a3 (f := 7) (by decide) (by decide)) (fr_s_X9_rate σ a1 a2 a3 (f := 15) (by decide) (by decide)) (fr_s_X9_rate σ a1 a2 a3 (f := 38) (by decide) (by decide)) (fr_s_X9_rate σ a1 a2 a3 (f := 39) (by decide) (by decide)) (fr_s_X9_rate σ a1 a2 a3 (f := 41) (by decide) (by decide)))
theorem jr_weather {σ : St} (J : JR σ) (a1 a2 a3 : Int32) : JR (s_X9_weather σ a1 a2 a3).2 := (JR_cast J (fr_s_X9_weather σ a1 a2 a3 (f := 6) (by decide) (by decide) (by decide)) (fr_s_X9_weather σ a1 a2 a3 (f := 7) (by decide) (by decide) (by decide)) (fr_s_X9_weather σ a1 a2 a3 (f := 15) (by decide) (by decide) (by decide)) (fr_s_X9_weather σ a1 a2 a3 (f := 38) (by decide) (by decide) (by decide)) (fr_s_X9_weather σ a1 a2 a3 (f := 39) (by decide) (by decide) (by decide)) (fr_s_X9_weather σ a1 a2 a3 (f := 41) (by decide) (by decide) (by decide)))
theorem jr_right {σ : St} (J : JR σ) (a1 a2 a3 a4 a5 : Int32) : JR (s_X9_right σ a1 a2 a3 a4 a5).2 := (JR_cast J (fr_s_X9_right σ a1 a2 a3 a4 a5 (f := 6) (by decide) (by decide) (by decide) (by decide) (by decide) (by decide) (by decide) (by decide) (by decide) (by decide)) (fr_s_X9_right σ a1 a2 a3 a4 a5 (f := 7) (by decide) (by decide) (by decide) (by decide) (by decide) (by decide) (by decide) (by decide) (by decide) (by decide)) (fr_s_X9_right σ a1 a2 a3 a4 a5 (f := 15) (by decide) (by decide) (by decide) (by decide) (by decide) (by decide) (by decide) (by decide) (by decide) (by decide)) (fr_s_X9_right σ a1 a2 a3 a4 a5 (f := 38) (by decide) (by decide) (by decide) (by decide) (by decide) (by decide) (by decide) (by decide) (by decide) (by decide)) (fr_s_X9_right σ a1 a2 a3 a4 a5 (f := 39) (by decide) (by decide) (by decide) (by decide) (by decide) (by decide) (by decide) (by decide) (by decide) (by decide)) (fr_s_X9_right σ a1 a2 a3 a4 a5 (f := 41) (by decide) (by decide) (by decide) (by decide) (by decide) (by decide) (by decide) (by decide) (by decide) (by decide)))
theorem jr_lend {σ : St} (J : JR σ) (a1 a2 a3 a4 : Int32) : JR (s_X9_lend σ a1 a2 a3 a4).2 := (JR_cast J (fr_s_X9_lend σ a1 a2 a3 a4 (f := 6) (by decide) (by decide) (by decide) (by decide) (by decide) (by decide) (by decide) (by decide) (by decide) (by decide)) (fr_s_X9_lend σ a1 a2 a3 a4 (f := 7) (by decide) (by decide) (by decide) (by decide) (by decide) (by decide) (by decide) (by decide) (by decide) (by decide)) (fr_s_X9_lend σ a1 a2 a3 a4 (f := 15) (by decide) (by decide) (by decide) (by decide) (by decide) (by decide) (by decide) (by decide) (by decide) (by decide)) (fr_s_X9_lend σ a1 a2 a3 a4 (f := 38) (by decide) (by decide) (by decide) (by decide) (by decide) (by decide) (by decide) (by decide) (by decide) (by decide)) (fr_s_X9_lend σ a1 a2 a3 a4 (f := 39) (by decide) (by decide) (by decide) (by decide) (by decide) (by decide) (by decide) (by decide) (by decide) (by decide)) (fr_s_X9_lend σ a1 a2 a3 a4 (f := 41) (by decide) (by decide) (by decide) (by decide) (by decide) (by decide) (by decide) (by decide) (by decide) (by decide)))
theorem jr_sell {σ : St} (J : JR σ) (a1 a2 : Int32) : JR (s_X9_sell σ a1 a2).2 := (JR_cast J (fr_s_X9_sell σ a1 a2 (f := 6) (by decide) (by decide)) (fr_s_X9_sell σ a1 a2 (f := 7) (by decide) (by decide)) (fr_s_X9_sell σ a1 a2 (f := 15) (by decide) (by decide)) (fr_s_X9_sell σ a1 a2 (f := 38) (by decide) (by decide)) (fr_s_X9_sell σ a1 a2 (f := 39) (by decide) (by decide)) (fr_s_X9_sell σ a1 a2 (f := 41) (by decide) (by decide)))
theorem jr_move {σ : St} (J : JR σ) (a1 a2 : Int32) : JR (s_X9_move σ a1 a2).2 := (JR_cast J (fr_s_X9_move σ a1 a2 (f := 6) (by decide) (by decide)) (fr_s_X9_move σ a1 a2 (f := 7) (by decide) (by decide)) (fr_s_X9_move σ a1 a2 (f := 15) (by decide) (by decide)) (fr_s_X9_move σ a1 a2 (f := 38) (by decide) (by decide)) (fr_s_X9_move σ a1 a2 (f := 39) (by decide) (by decide)) (fr_s_X9_move σ a1 a2 (f := 41) (by decide) (by decide)))
theorem jr_covered {σ : St} (J : JR σ) (a1 : Int32) : JR (s_X9_covered σ a1).2 := (JR_cast J (fr_s_X9_covered σ a1 (f := 6) (by decide)) (fr_s_X9_covered σ a1 (f := 7) (by decide)) (fr_s_X9_covered σ a1 (f := 15) (by decide)) (fr_s_X9_covered σ a1 (f := 38) (by decide)) (fr_s_X9_covered σ a1 (f := 39) (by decide)) (fr_s_X9_covered σ a1 (f := 41) (by decide)))
theorem jr_lacks {σ : St} (J : JR σ) (a1 : Int32) : JR (s_X9_lacks σ a1).2 := (JR_cast J (fr_s_X9_lacks σ a1 (f := 6) (by decide)) (fr_s_X9_lacks σ a1 (f := 7) (by decide)) (fr_s_X9_lacks σ a1 (f := 15) (by decide)) (fr_s_X9_lacks σ a1 (f := 38) (by decide)) (fr_s_X9_lacks σ a1 (f := 39) (by decide)) (fr_s_X9_lacks σ a1 (f := 41) (by decide)))
theorem jr_over {σ : St} (J : JR σ) (a1 a2 : Int32) : JR (s_X9_over σ a1 a2).2 := (JR_cast J (fr_s_X9_over σ a1 a2 (f := 6) (by decide)) (fr_s_X9_over σ a1 a2 (f := 7) (by decide)) (fr_s_X9_over σ a1 a2 (f := 15) (by decide)) (fr_s_X9_over σ a1 a2 (f := 38) (by decide)) (fr_s_X9_over σ a1 a2 (f := 39) (by decide)) (fr_s_X9_over σ a1 a2 (f := 41) (by decide)))
theorem jr_rest {σ : St} (J : JR σ) (a1 a2 : Int32) : JR (s_X9_rest σ a1 a2).2 := (JR_cast J (fr_s_X9_rest σ a1 a2 (f := 6) (by decide) (by decide)) (fr_s_X9_rest σ a1 a2 (f := 7) (by decide) (by decide)) (fr_s_X9_rest σ a1 a2 (f := 15) (by decide) (by decide)) (fr_s_X9_rest σ a1 a2 (f := 38) (by decide) (by decide)) (fr_s_X9_rest σ a1 a2 (f := 39) (by decide) (by decide)) (fr_s_X9_rest σ a1 a2 (f := 41) (by decide) (by decide)))
theorem jr_cut {σ : St} (J : JR σ) (a1 : Int32) : JR (s_X9_cut σ a1).2 := (JR_cast J (fr_s_X9_cut σ a1 (f := 6) (by decide) (by decide) (by decide) (by decide) (by decide)) (fr_s_X9_cut σ a1 (f := 7) (by decide) (by decide) (by decide) (by decide) (by decide)) (fr_s_X9_cut σ a1 (f := 15) (by decide) (by decide) (by decide) (by decide) (by decide)) (fr_s_X9_cut σ a1 (f := 38) (by decide) (by decide) (by decide) (by decide) (by decide)) (fr_s_X9_cut σ a1 (f := 39) (by decide) (by decide) (by decide) (by decide) (by decide)) (fr_s_X9_cut σ a1 (f := 41) (by decide) (by decide) (by decide) (by decide) (by decide)))
theorem jr_plan {σ : St} (J : JR σ) (a1 a2 a3 a4 : Int32) : JR (s_X9_plan σ a1 a2 a3 a4).2 := (JR_cast J (fr_s_X9_plan σ a1 a2 a3 a4 (f := 6) (by decide) (by decide) (by decide) (by decide) (by decide) (by decide) (by decide) (by decide) (by decide)) (fr_s_X9_plan σ a1 a2 a3 a4 (f := 7) (by decide) (by decide) (by decide) (by decide) (by decide) (by decide) (by decide) (by decide) (by decide)) (fr_s_X9_plan σ a1 a2 a3 a4 (f := 15) (by decide) (by decide) (by decide) (by decide) (by decide) (by decide) (by decide) (by decide) (by decide)) (fr_s_X9_plan σ a1 a2 a3 a4 (f := 38) (by decide) (by decide) (by decide) (by decide) (by decide) (by decide) (by decide) (by decide) (by decide)) (fr_s_X9_plan σ a1 a2 a3 a4 (f := 39) (by decide) (by decide) (by decide) (by decide) (by decide) (by decide) (by decide) (by decide) (by decide)) (fr_s_X9_plan σ a1 a2 a3 a4 (f := 41) (by decide) (by decide) (by decide) (by decide) (by decide) (by decide) (by decide) (by decide) (by decide)))
theorem jr_pieceOf {σ : St} (J : JR σ) (a1 a2 : Int32) : JR (s_X9_pieceOf σ a1 a2).2 := (JR_cast J (fr_s_X9_pieceOf σ a1 a2 (f := 6) (by decide)) (fr_s_X9_pieceOf σ a1 a2 (f := 7) (by decide)) (fr_s_X9_pieceOf σ a1 a2 (f := 15) (by decide)) (fr_s_X9_pieceOf σ a1 a2 (f := 38) (by decide)) (fr_s_X9_pieceOf σ a1 a2 (f := 39) (by decide)) (fr_s_X9_pieceOf σ a1 a2 (f := 41) (by decide)))
theorem jr_rightOf {σ : St} (J : JR σ) (a1 a2 : Int32) : JR (s_X9_rightOf σ a1 a2).2 := (JR_cast J (fr_s_X9_rightOf σ a1 a2 (f := 6) (by decide)) (fr_s_X9_rightOf σ a1 a2 (f := 7) (by decide)) (fr_s_X9_rightOf σ a1 a2 (f := 15) (by decide)) (fr_s_X9_rightOf σ a1 a2 (f := 38) (by decide)) (fr_s_X9_rightOf σ a1 a2 (f := 39) (by decide)) (fr_s_X9_rightOf σ a1 a2 (f := 41) (by decide)))
theorem jr_herdOf {σ : St} (J : JR σ) (a1 a2 : Int32) : JR (s_X9_herdOf σ a1 a2).2 := (JR_cast J (fr_s_X9_herdOf σ a1 a2 (f := 6) (by decide)) (fr_s_X9_herdOf σ a1 a2 (f := 7) (by decide)) (fr_s_X9_herdOf σ a1 a2 (f := 15) (by decide)) (fr_s_X9_herdOf σ a1 a2 (f := 38) (by decide)) (fr_s_X9_herdOf σ a1 a2 (f := 39) (by decide)) (fr_s_X9_herdOf σ a1 a2 (f := 41) (by decide)))
theorem jr_ownerOf {σ : St} (J : JR σ) (a1 a2 : Int32) : JR (s_X9_ownerOf σ a1 a2).2 := (JR_cast J (fr_s_X9_ownerOf σ a1 a2 (f := 6) (by decide)) (fr_s_X9_ownerOf σ a1 a2 (f := 7) (by decide)) (fr_s_X9_ownerOf σ a1 a2 (f := 15) (by decide)) (fr_s_X9_ownerOf σ a1 a2 (f := 38) (by decide)) (fr_s_X9_ownerOf σ a1 a2 (f := 39) (by decide)) (fr_s_X9_ownerOf σ a1 a2 (f := 41) (by decide)))
theorem o7_owner (σ : St) (a1 : Int32) : (s_X9_owner σ a1).2 7 0 = σ 7 0 := congrFun (fr_s_X9_owner σ a1 (f := 7) (by decide) (by decide) (by decide)) 0
theorem o7_house (σ : St) (a1 : Int32) : (s_X9_house σ a1).2 7 0 = σ 7 0 := congrFun (fr_s_X9_house σ a1 (f := 7) (by decide) (by decide) (by decide)) 0
theorem o7_rate (σ : St) (a1 a2 a3 : Int32) : (s_X9_rate σ a1 a2 a3).2 7 0 = σ 7 0 := congrFun (fr_s_X9_rate σ a1 a2 a3 (f := 7) (by decide) (by decide)) 0
theorem o7_weather (σ : St) (a1 a2 a3 : Int32) : (s_X9_weather σ a1 a2 a3).2 7 0 = σ 7 0 := congrFun (fr_s_X9_weather σ a1 a2 a3 (f := 7) (by decide) (by decide) (by decide)) 0
theorem o7_right (σ : St) (a1 a2 a3 a4 a5 : Int32) : (s_X9_right σ a1 a2 a3 a4 a5).2 7 0 = σ 7 0 := congrFun (fr_s_X9_right σ a1 a2 a3 a4 a5 (f := 7) (by decide) (by decide) (by decide) (by decide) (by decide) (by decide) (by decide) (by decide) (by decide) (by decide)) 0
theorem o7_lend (σ : St) (a1 a2 a3 a4 : Int32) : (s_X9_lend σ a1 a2 a3 a4).2 7 0 = σ 7 0 := congrFun (fr_s_X9_lend σ a1 a2 a3 a4 (f := 7) (by decide) (by decide) (by decide) (by decide) (by decide) (by decide) (by decide) (by decide) (by decide) (by decide)) 0
theorem o7_sell (σ : St) (a1 a2 : Int32) : (s_X9_sell σ a1 a2).2 7 0 = σ 7 0 := congrFun (fr_s_X9_sell σ a1 a2 (f := 7) (by decide) (by decide)) 0
theorem o7_move (σ : St) (a1 a2 : Int32) : (s_X9_move σ a1 a2).2 7 0 = σ 7 0 := congrFun (fr_s_X9_move σ a1 a2 (f := 7) (by decide) (by decide)) 0
theorem o7_covered (σ : St) (a1 : Int32) : (s_X9_covered σ a1).2 7 0 = σ 7 0 := congrFun (fr_s_X9_covered σ a1 (f := 7) (by decide)) 0
theorem o7_lacks (σ : St) (a1 : Int32) : (s_X9_lacks σ a1).2 7 0 = σ 7 0 := congrFun (fr_s_X9_lacks σ a1 (f := 7) (by decide)) 0
theorem o7_over (σ : St) (a1 a2 : Int32) : (s_X9_over σ a1 a2).2 7 0 = σ 7 0 := congrFun (fr_s_X9_over σ a1 a2 (f := 7) (by decide)) 0
theorem o7_rest (σ : St) (a1 a2 : Int32) : (s_X9_rest σ a1 a2).2 7 0 = σ 7 0 := congrFun (fr_s_X9_rest σ a1 a2 (f := 7) (by decide) (by decide)) 0
theorem o7_cut (σ : St) (a1 : Int32) : (s_X9_cut σ a1).2 7 0 = σ 7 0 := congrFun (fr_s_X9_cut σ a1 (f := 7) (by decide) (by decide) (by decide) (by decide) (by decide)) 0
theorem o7_plan (σ : St) (a1 a2 a3 a4 : Int32) : (s_X9_plan σ a1 a2 a3 a4).2 7 0 = σ 7 0 := congrFun (fr_s_X9_plan σ a1 a2 a3 a4 (f := 7) (by decide) (by decide) (by decide) (by decide) (by decide) (by decide) (by decide) (by decide) (by decide)) 0
theorem o7_pieceOf (σ : St) (a1 a2 : Int32) : (s_X9_pieceOf σ a1 a2).2 7 0 = σ 7 0 := congrFun (fr_s_X9_pieceOf σ a1 a2 (f := 7) (by decide)) 0
theorem o7_rightOf (σ : St) (a1 a2 : Int32) : (s_X9_rightOf σ a1 a2).2 7 0 = σ 7 0 := congrFun (fr_s_X9_rightOf σ a1 a2 (f := 7) (by decide)) 0
theorem o7_herdOf (σ : St) (a1 a2 : Int32) : (s_X9_herdOf σ a1 a2).2 7 0 = σ 7 0 := congrFun (fr_s_X9_herdOf σ a1 a2 (f := 7) (by decide)) 0
theorem o7_ownerOf (σ : St) (a1 a2 : Int32) : (s_X9_ownerOf σ a1 a2).2 7 0 = σ 7 0 := congrFun (fr_s_X9_ownerOf σ a1 a2 (f := 7) (by decide)) 0
theorem o7_piece (σ : St) (a1 a2 a3 a4 : Int32) : (s_X9_piece σ a1 a2 a3 a4).2 7 0 = σ 7 0 := congrFun (fr_s_X9_piece σ a1 a2 a3 a4 (f := 7) (by decide) (by decide) (by decide) (by decide) (by decide) (by decide) (by decide)) 0
theorem o7_herd (σ : St) (a1 a2 a3 : Int32) : (s_X9_herd σ a1 a2 a3).2 7 0 = σ 7 0 := congrFun (fr_s_X9_herd σ a1 a2 a3 (f := 7) (by decide) (by decide) (by decide) (by decide) (by decide) (by decide)) 0
theorem o7_pass (σ : St) (a1 : Int32) : (s_X9_pass σ a1).2 7 0 = σ 7 0 := congrFun (fr_s_X9_pass σ a1 (f := 7) (by decide) (by decide) (by decide) (by decide) (by decide) (by decide) (by decide) (by decide) (by decide) (by decide) (by decide) (by decide) (by decide) (by decide) (by decide) (by decide) (by decide)) 0
theorem o7_pound (σ : St) (a1 : Int32) : (s_X9_pound σ a1).2 7 0 = σ 7 0 := congrFun (fr_s_X9_pound σ a1 (f := 7) (by decide) (by decide) (by decide) (by decide)) 0
theorem o7_free (σ : St) (a1 : Int32) : (s_X9_free σ a1).2 7 0 = σ 7 0 := congrFun (fr_s_X9_free σ a1 (f := 7) (by decide) (by decide) (by decide) (by decide)) 0
theorem o7_put (σ : St) (a1 a2 : Int32) : (s_X9_put σ a1 a2).2 7 0 = σ 7 0 ∨ (s_X9_put σ a1 a2).2 7 0 = σ 7 0 + 1 := by
  unfold s_X9_put
  (repeat' split) <;> first | exact Or.inl rfl | exact Or.inr rfl
theorem o7_drive (σ : St) (a1 a2 : Int32) : (s_X9_drive σ a1 a2).2 7 0 = σ 7 0 ∨ (s_X9_drive σ a1 a2).2 7 0 = σ 7 0 + 1 := by
  unfold s_X9_drive
  (repeat' split) <;> first | exact Or.inl rfl | exact Or.inr rfl

