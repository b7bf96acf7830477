theorem fr_s_X8_right (σ : St) (a1 : Int32) (a2 : Int32) (a3 : Int32) (a4 : Int32) (a5 : Int32) {f : Nat} (h0 : f ≠ 0) (h1 : f ≠ 1) (h2 : f ≠ 2) (h3 : f ≠ 3) (h4 : f ≠ 4) (h5 : f ≠ 5) (h6 : f ≠ 6) (h7 : f ≠ 7) (h8 : f ≠ 8) (h810 : f ≠ 810) (h814 : f ≠ 814) : (s_X8_right σ a1 a2 a3 a4 a5).2 f = σ f := by
  have hr : ∀ c : Int32, (((s_X8_refuse σ c).1, (s_X8_refuse σ c).2) : Int32 × St).2 f = σ f := fun c => fr_s_X8_refuse σ c h810
  have hq : ∀ x0 x1 x2 x3 x4 x5 x6 x7 x8 : Int32, (((s_X8_addRight σ x0 x1 x2 x3 x4 x5 x6 x7 x8).1, (s_X8_addRight σ x0 x1 x2 x3 x4 x5 x6 x7 x8).2) : Int32 × St).2 f = σ f := fun x0 x1 x2 x3 x4 x5 x6 x7 x8 => fr_s_X8_addRight σ x0 x1 x2 x3 x4 x5 x6 x7 x8 h0 h1 h2 h3 h4 h5 h6 h7 h8 h814
  have hi : ∀ (c : Prop) [Decidable c] (x y : Int32 × St), x.2 f = σ f → y.2 f = σ f → (if c then x else y).2 f = σ f := fun c _ x y hx hy => by split <;> assumption
  unfold s_X8_right
  repeat' (first | with_reducible refine hi _ _ _ ?_ ?_ | with_reducible exact hr _ | with_reducible exact hq _ _ _ _ _ _ _ _ _)
theorem fr_s_X8_plan (σ : St) (a1 : Int32) (a2 : Int32) (a3 : Int32) (a4 : Int32) {f : Nat} (h300 : f ≠ 300) (h301 : f ≠ 301) (h302 : f ≠ 302) (h303 : f ≠ 303) (h304 : f ≠ 304) (h305 : f ≠ 305) (h306 : f ≠ 306) (h601 : f ≠ 601) (h602 : f ≠ 602) (h603 : f ≠ 603) (h604 : f ≠ 604) (h605 : f ≠ 605) (h606 : f ≠ 606) (h607 : f ≠ 607) (h608 : f ≠ 608) (h609 : f ≠ 609) (h620 : f ≠ 620) (h621 : f ≠ 621) (h622 : f ≠ 622) (h623 : f ≠ 623) (h624 : f ≠ 624) (h625 : f ≠ 625) (h810 : f ≠ 810) : (s_X8_plan σ a1 a2 a3 a4).2 f = σ f := by
  have hr : ∀ c : Int32, (((s_X8_refuse σ c).1, (s_X8_refuse σ c).2) : Int32 × St).2 f = σ f := fun c => fr_s_X8_refuse σ c h810
  have hi : ∀ (c : Prop) [Decidable c] (x y : Int32 × St), x.2 f = σ f → y.2 f = σ f → (if c then x else y).2 f = σ f := fun c _ x y hx hy => by split <;> assumption
  have e1 : s_X6_begin σ a1 a2 a3 a4 f = σ f := fr_s_X6_begin σ a1 a2 a3 a4 h605 h606 h607 h608 h609
  obtain ⟨τ1, ht1⟩ : ∃ τ, s_X6_begin σ a1 a2 a3 a4 = τ := ⟨_, rfl⟩
  rw [ht1] at e1
  have e2 : s_X8_reckonTurns τ1 f = τ1 f := fr_s_X8_reckonTurns τ1 h300 h301 h302 h303 h304 h305 h306 h601 h620 h621 h622 h623 h624 h625
  obtain ⟨τ2, ht2⟩ : ∃ τ, s_X8_reckonTurns τ1 = τ := ⟨_, rfl⟩
  rw [ht2] at e2
  have hq : ∀ z : Int32, (((s_X6_choose τ2 z).1, (s_X6_choose τ2 z).2) : Int32 × St).2 f = σ f := fun z => (fr_s_X6_choose τ2 z h602 h603 h604).trans (e2.trans e1)
  have c1 : ∀ x : Sum (Int32 × St) Unit, Sum.elim (fun r : Int32 × St => r.2 f) (fun _ => σ f) x = σ f → (s_X8_plan_c114r σ a1 a2 a3 a4 x).2 f = σ f := by
    intro x hx
    cases x with
    | inl r => exact hx
    | inr s =>
      show (s_X8_plan_c114 σ a1 a2 a3 a4 s).2 f = σ f
      unfold s_X8_plan_c114
      dsimp only
      rw [ht1, ht2]
      split
      · exact hq _
      · exact hr _
  have c2 : ∀ x : Sum (Int32 × St) Unit, Sum.elim (fun r : Int32 × St => r.2 f) (fun _ => σ f) x = σ f → (s_X8_plan_c114r_1 σ a1 a2 a3 a4 x).2 f = σ f := by
    intro x hx
    cases x with
    | inl r => exact hx
    | inr s =>
      show (s_X8_plan_c114_1 σ a1 a2 a3 a4 s).2 f = σ f
      unfold s_X8_plan_c114_1
      dsimp only
      rw [ht1, ht2]
      split
      · exact hq _
      · exact hr _
  have l1 : ∀ (k : Nat) (s : Unit), Sum.elim (fun r : Int32 × St => r.2 f) (fun _ => σ f) (s_X8_plan_l114 σ a4 k s) = σ f := by
    intro k s
    unfold s_X8_plan_l114
    dsimp only
    split
    · exact hr _
    · rfl
  have l2 : ∀ (k : Nat) (s : Unit), Sum.elim (fun r : Int32 × St => r.2 f) (fun _ => σ f) (s_X8_plan_l114_1 σ a4 k s) = σ f := by
    intro k s
    unfold s_X8_plan_l114_1
    dsimp only
    split
    · exact hr _
    · rfl
  unfold s_X8_plan
  have c3 := c1 _ (iterR_fr (P := fun _ : Unit => σ f) (Q := fun r : Int32 × St => r.2 f) l1 (a3.toNatClampNeg - 0) 0 ())
  have c4 := c2 _ (iterR_fr (P := fun _ : Unit => σ f) (Q := fun r : Int32 × St => r.2 f) l2 (a3.toNatClampNeg - 0) 0 ())
  repeat' (first | with_reducible refine hi _ _ _ ?_ ?_ | with_reducible exact hr _ | with_reducible exact c3 | with_reducible exact c4)
