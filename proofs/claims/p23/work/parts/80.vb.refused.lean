theorem j119_y {σ : St} {a1 a2 a3 a4 y : Int32} (hy : ¬ y = 0) (g : ∀ s : Nat, s < a3.toNatClampNeg → opn σ a4 s) : s_X9_plan_j119 σ a1 a2 a3 a4 y = if σ 1 0 + a3 * a4 ≤ 720 then s_X9_plan_c237 σ a1 a2 a3 a4 (iter s_X9_plan_l237 (((1 : Int32) * a3).toNatClampNeg - 0) 0 σ) else ((s_X9_refuse σ (-6 : Int32)).1, (s_X9_refuse σ (-6 : Int32)).2) := by
  unfold s_X9_plan_j119 s_X9_plan_c124
  try dsimp only
  rw [if_neg]
  refine (gd_eq (σ := σ) (a4 := a4) (L := s_X9_plan_l124 σ a4) (fun k v => ⟨fun h => ?_, fun h => ⟨_, ?_, any_eq (L := s_X9_plan_l141 σ a4 k) (fun j w => ?_) (σ 2 0).toNatClampNeg⟩⟩) _ 0 y).mpr ⟨hy, fun s _ h2 => g s (by omega)⟩
  · unfold s_X9_plan_l124
    try dsimp only
    rw [if_pos h]
  · unfold s_X9_plan_l124 s_X9_plan_c141
    try dsimp only
    rw [if_neg h, Nat.sub_zero]
  · unfold s_X9_plan_l141
    rfl
theorem j119_n {σ : St} {a1 a2 a3 a4 y : Int32} (g : y = 0 ∨ ¬ ∀ s : Nat, s < a3.toNatClampNeg → opn σ a4 s) : s_X9_plan_j119 σ a1 a2 a3 a4 y = ((s_X9_refuse σ (-3 : Int32)).1, (s_X9_refuse σ (-3 : Int32)).2) := by
  unfold s_X9_plan_j119 s_X9_plan_c124
  try dsimp only
  rw [if_pos]
  refine Decidable.byContradiction (fun q => ?_)
  have r := (gd_eq (σ := σ) (a4 := a4) (L := s_X9_plan_l124 σ a4) (fun k v => ⟨fun h => ?_, fun h => ⟨_, ?_, any_eq (L := s_X9_plan_l141 σ a4 k) (fun j w => ?_) (σ 2 0).toNatClampNeg⟩⟩) _ 0 y).mp q
  · rcases g with g | g
    · exact r.1 g
    · exact g (fun s hs => r.2 s (Nat.zero_le s) (by omega))
  · unfold s_X9_plan_l124
    try dsimp only
    rw [if_pos h]
  · unfold s_X9_plan_l124 s_X9_plan_c141
    try dsimp only
    rw [if_neg h, Nat.sub_zero]
  · unfold s_X9_plan_l141
    rfl
theorem c114_e {σx σm : St} (e1 : σx 811 = σm 2) (e6 : σx 816 = σm 1) (g6 : σx 404 = σm 16) (n6 : (σm 2 0).toNatClampNeg ≤ 6) (a1 a2 a3 a4 : Int32) : ((∀ s : Nat, s < a3.toNatClampNeg → opn σm a4 s) → s_X8_plan_c114r σx a1 a2 a3 a4 (iterR (s_X8_plan_l114 σx a4) (a3.toNatClampNeg - 0) 0 ()) = if σm 1 0 + a3 * a4 ≤ 720 then ((s_X6_choose (s_X8_reckonTurns (s_X6_begin σx a1 a2 a3 a4)) ((s_X8_reckonTurns (s_X6_begin σx a1 a2 a3 a4)) 811 0)).1, (s_X6_choose (s_X8_reckonTurns (s_X6_begin σx a1 a2 a3 a4)) ((s_X8_reckonTurns (s_X6_begin σx a1 a2 a3 a4)) 811 0)).2) else ((s_X8_refuse σx (-6 : Int32)).1, (s_X8_refuse σx (-6 : Int32)).2)) ∧ ((¬ ∀ s : Nat, s < a3.toNatClampNeg → opn σm a4 s) → s_X8_plan_c114r σx a1 a2 a3 a4 (iterR (s_X8_plan_l114 σx a4) (a3.toNatClampNeg - 0) 0 ()) = ((s_X8_refuse σx (-3 : Int32)).1, (s_X8_refuse σx (-3 : Int32)).2)) := by
  have n6x : (σx 811 0).toNatClampNeg ≤ 6 := by rw [e1]; exact n6
  have key := gx_eq (σx := σx) (r := ((s_X8_refuse σx (-3 : Int32)).1, (s_X8_refuse σx (-3 : Int32)).2)) (c := opn σm a4) (L := s_X8_plan_l114 σx a4) (fun k => by
    have z := op_0 σx (σx 816 0 + 1 + nI k * a4) n6x
    unfold s_X8_plan_l114
    try dsimp only
    refine ⟨fun h => ?_, fun h => ?_⟩
    · rw [if_neg]
      intro q
      obtain ⟨p, hp, hm⟩ := h
      refine z.mp q p (by rw [e1]; exact hp) ?_
      exact (mt_eq e6 g6 (by omega) (nI k) a4).mpr hm
    · rw [if_pos]
      refine z.mpr (fun p hp q => h ⟨p, by rw [e1] at hp; exact hp, ?_⟩)
      rw [e1] at hp
      exact (mt_eq e6 g6 (by omega) (nI k) a4).mp q) a3.toNatClampNeg 0
  rw [Nat.sub_zero]
  refine ⟨fun g => ?_, fun g => ?_⟩
  · rw [key.1 (fun s _ h2 => g s (by omega))]
    show s_X8_plan_c114 σx a1 a2 a3 a4 () = _
    unfold s_X8_plan_c114
    try dsimp only
    rw [e6]
  · rw [key.2 (fun q => g (fun s hs => q s (Nat.zero_le s) (by omega)))]
    rfl
theorem j119_1_y {σ : St} {a1 a2 a3 a4 y : Int32} (hy : ¬ y = 0) (g : ∀ s : Nat, s < a3.toNatClampNeg → opn σ a4 s) : s_X9_plan_j119_1 σ a1 a2 a3 a4 y = if σ 1 0 + a3 * a4 ≤ 720 then s_X9_plan_c237_1 σ a1 a2 a3 a4 (iter s_X9_plan_l237_1 (((2 : Int32) * a3).toNatClampNeg - 0) 0 σ) else ((s_X9_refuse σ (-6 : Int32)).1, (s_X9_refuse σ (-6 : Int32)).2) := by
  unfold s_X9_plan_j119_1 s_X9_plan_c124_1
  try dsimp only
  rw [if_neg]
  refine (gd_eq (σ := σ) (a4 := a4) (L := s_X9_plan_l124_1 σ a4) (fun k v => ⟨fun h => ?_, fun h => ⟨_, ?_, any_eq (L := s_X9_plan_l141_1 σ a4 k) (fun j w => ?_) (σ 2 0).toNatClampNeg⟩⟩) _ 0 y).mpr ⟨hy, fun s _ h2 => g s (by omega)⟩
  · unfold s_X9_plan_l124_1
    try dsimp only
    rw [if_pos h]
  · unfold s_X9_plan_l124_1 s_X9_plan_c141_1
    try dsimp only
    rw [if_neg h, Nat.sub_zero]
  · unfold s_X9_plan_l141_1
    rfl
theorem j119_1_n {σ : St} {a1 a2 a3 a4 y : Int32} (g : y = 0 ∨ ¬ ∀ s : Nat, s < a3.toNatClampNeg → opn σ a4 s) : s_X9_plan_j119_1 σ a1 a2 a3 a4 y = ((s_X9_refuse σ (-3 : Int32)).1, (s_X9_refuse σ (-3 : Int32)).2) := by
  unfold s_X9_plan_j119_1 s_X9_plan_c124_1
  try dsimp only
  rw [if_pos]
  refine Decidable.byContradiction (fun q => ?_)
  have r := (gd_eq (σ := σ) (a4 := a4) (L := s_X9_plan_l124_1 σ a4) (fun k v => ⟨fun h => ?_, fun h => ⟨_, ?_, any_eq (L := s_X9_plan_l141_1 σ a4 k) (fun j w => ?_) (σ 2 0).toNatClampNeg⟩⟩) _ 0 y).mp q
  · rcases g with g | g
    · exact r.1 g
    · exact g (fun s hs => r.2 s (Nat.zero_le s) (by omega))
  · unfold s_X9_plan_l124_1
    try dsimp only
    rw [if_pos h]
  · unfold s_X9_plan_l124_1 s_X9_plan_c141_1
    try dsimp only
    rw [if_neg h, Nat.sub_zero]
  · unfold s_X9_plan_l141_1
    rfl
theorem c114_1_e {σx σm : St} (e1 : σx 811 = σm 2) (e6 : σx 816 = σm 1) (g6 : σx 404 = σm 16) (n6 : (σm 2 0).toNatClampNeg ≤ 6) (a1 a2 a3 a4 : Int32) : ((∀ s : Nat, s < a3.toNatClampNeg → opn σm a4 s) → s_X8_plan_c114r_1 σx a1 a2 a3 a4 (iterR (s_X8_plan_l114_1 σx a4) (a3.toNatClampNeg - 0) 0 ()) = if σm 1 0 + a3 * a4 ≤ 720 then ((s_X6_choose (s_X8_reckonTurns (s_X6_begin σx a1 a2 a3 a4)) ((s_X8_reckonTurns (s_X6_begin σx a1 a2 a3 a4)) 811 0)).1, (s_X6_choose (s_X8_reckonTurns (s_X6_begin σx a1 a2 a3 a4)) ((s_X8_reckonTurns (s_X6_begin σx a1 a2 a3 a4)) 811 0)).2) else ((s_X8_refuse σx (-6 : Int32)).1, (s_X8_refuse σx (-6 : Int32)).2)) ∧ ((¬ ∀ s : Nat, s < a3.toNatClampNeg → opn σm a4 s) → s_X8_plan_c114r_1 σx a1 a2 a3 a4 (iterR (s_X8_plan_l114_1 σx a4) (a3.toNatClampNeg - 0) 0 ()) = ((s_X8_refuse σx (-3 : Int32)).1, (s_X8_refuse σx (-3 : Int32)).2)) := by
  have n6x : (σx 811 0).toNatClampNeg ≤ 6 := by rw [e1]; exact n6
  have key := gx_eq (σx := σx) (r := ((s_X8_refuse σx (-3 : Int32)).1, (s_X8_refuse σx (-3 : Int32)).2)) (c := opn σm a4) (L := s_X8_plan_l114_1 σx a4) (fun k => by
    have z := op_0 σx (σx 816 0 + 1 + nI k * a4) n6x
    unfold s_X8_plan_l114_1
    try dsimp only
    refine ⟨fun h => ?_, fun h => ?_⟩
    · rw [if_neg]
      intro q
      obtain ⟨p, hp, hm⟩ := h
      refine z.mp q p (by rw [e1]; exact hp) ?_
      exact (mt_eq e6 g6 (by omega) (nI k) a4).mpr hm
    · rw [if_pos]
      refine z.mpr (fun p hp q => h ⟨p, by rw [e1] at hp; exact hp, ?_⟩)
      rw [e1] at hp
      exact (mt_eq e6 g6 (by omega) (nI k) a4).mp q) a3.toNatClampNeg 0
  rw [Nat.sub_zero]
  refine ⟨fun g => ?_, fun g => ?_⟩
  · rw [key.1 (fun s _ h2 => g s (by omega))]
    show s_X8_plan_c114_1 σx a1 a2 a3 a4 () = _
    unfold s_X8_plan_c114_1
    try dsimp only
    rw [e6]
  · rw [key.2 (fun q => g (fun s hs => q s (Nat.zero_le s) (by omega)))]
    rfl
/-- the plan is refused alike, or it is made by both -/
theorem plan_cases {σx σm : St} (E : RE σx σm) (G : RG σx σm) (hJ : IR σm) (a1 a2 a3 a4 : Int32) : (∃ c : Int32, (c = -1 ∨ c = -2 ∨ c = -3 ∨ c = -6) ∧ s_X8_plan σx a1 a2 a3 a4 = ((s_X8_refuse σx c).1, (s_X8_refuse σx c).2) ∧ s_X9_plan σm a1 a2 a3 a4 = ((s_X9_refuse σm c).1, (s_X9_refuse σm c).2)) ∨ (s_X8_plan σx a1 a2 a3 a4 = ((s_X6_choose (s_X8_reckonTurns (s_X6_begin σx a1 a2 a3 a4)) ((s_X8_reckonTurns (s_X6_begin σx a1 a2 a3 a4)) 811 0)).1, (s_X6_choose (s_X8_reckonTurns (s_X6_begin σx a1 a2 a3 a4)) ((s_X8_reckonTurns (s_X6_begin σx a1 a2 a3 a4)) 811 0)).2) ∧ ¬ s_X9_isIn a1 (σm 6 0) = 0 ∧ ¬ a1 = a2 ∧ ¬ a3 < 1 ∧ ¬ a4 < 1 ∧ a4 ≤ 10 ∧ σm 1 0 + a3 * a4 ≤ 720 ∧ (∀ s : Nat, s < a3.toNatClampNeg → opn σm a4 s) ∧ ((a2 = -1 ∧ ¬ 4 < a3 ∧ s_X9_plan σm a1 a2 a3 a4 = s_X9_plan_c237 σm a1 a2 a3 a4 (iter s_X9_plan_l237 (((1 : Int32) * a3).toNatClampNeg - 0) 0 σm)) ∨ (¬ a2 = -1 ∧ ¬ s_X9_isIn a2 (σm 6 0) = 0 ∧ ¬ 2 < a3 ∧ s_X9_plan σm a1 a2 a3 a4 = s_X9_plan_c237_1 σm a1 a2 a3 a4 (iter s_X9_plan_l237_1 (((2 : Int32) * a3).toNatClampNeg - 0) 0 σm)))) := by
  have e1 : σx 811 = σm 2 := E.1
  have e5 : σx 815 = σm 6 := E.2.2.2.2.1
  have e6 : σx 816 = σm 1 := E.2.2.2.2.2.1
  have g1 : σx 206 = σm 41 := G.1
  have g6 : σx 404 = σm 16 := G.2.2.2.2.2.1
  have n6 : (σm 2 0).toNatClampNeg ≤ 6 := cnt_le (ir_2 hJ)
  have A := c114_e e1 e6 g6 n6 a1 a2 a3 a4
  have B := c114_1_e e1 e6 g6 n6 a1 a2 a3 a4
  unfold s_X8_plan s_X9_plan
  rw [ra_ie, ra_ie, e5, g1]
  by_cases h1 : s_X9_isIn a1 (σm 6 0) = 0
  · rw [if_pos h1, if_pos h1]
    exact Or.inl ⟨-1, Or.inl rfl, rfl, rfl⟩
  rw [if_neg h1, if_neg h1]
  by_cases h2 : a1 = a2
  · rw [if_pos h2]
    refine Or.inl ⟨-1, Or.inl rfl, rfl, ?_⟩
    rw [if_pos h2, if_pos h2]
    by_cases h3 : a2 = -1
    · rw [if_pos h3]
    · rw [if_neg h3]
      split <;> rfl
  rw [if_neg h2, if_neg h2, if_neg h2]
  by_cases h3 : a2 = -1
  · rw [if_pos h3, if_pos h3]
    by_cases h4 : a3 < 1
    · rw [if_pos h4, if_pos h4]
      exact Or.inl ⟨-2, Or.inr (Or.inl rfl), rfl, rfl⟩
    rw [if_neg h4, if_neg h4]
    by_cases h5 : (4 : Int32) < a3
    · rw [if_pos h5, if_pos h5]
      exact Or.inl ⟨-2, Or.inr (Or.inl rfl), rfl, rfl⟩
    rw [if_neg h5, if_neg h5]
    by_cases h6 : a4 < 1
    · rw [if_pos h6, if_pos h6]
      exact Or.inl ⟨-2, Or.inr (Or.inl rfl), rfl, rfl⟩
    rw [if_neg h6, if_neg h6]
    by_cases h7 : a4 ≤ 10
    case neg =>
      rw [if_neg h7, if_neg h7]
      exact Or.inl ⟨-2, Or.inr (Or.inl rfl), rfl, rfl⟩
    rw [if_pos h7, if_pos h7]
    by_cases h8 : σm 41 a1.toNatClampNeg = 0
    case neg =>
      rw [if_neg h8, if_neg h8, j119_n (Or.inl rfl)]
      exact Or.inl ⟨-3, Or.inr (Or.inr (Or.inl rfl)), rfl, rfl⟩
    rw [if_pos h8, if_pos h8]
    by_cases g : ∀ s : Nat, s < a3.toNatClampNeg → opn σm a4 s
    case neg =>
      rw [A.2 g, j119_n (Or.inr g)]
      exact Or.inl ⟨-3, Or.inr (Or.inr (Or.inl rfl)), rfl, rfl⟩
    rw [A.1 g, j119_y (by decide) g]
    by_cases h9 : σm 1 0 + a3 * a4 ≤ 720
    case neg =>
      rw [if_neg h9, if_neg h9]
      exact Or.inl ⟨-6, Or.inr (Or.inr (Or.inr rfl)), rfl, rfl⟩
    rw [if_pos h9, if_pos h9]
    exact Or.inr ⟨rfl, h1, h2, h4, h6, h7, h9, g, Or.inl ⟨h3, h5, rfl⟩⟩
  · rw [if_neg h3, if_neg h3]
    by_cases h10 : s_X9_isIn a2 (σm 6 0) = 0
    · rw [if_pos h10, if_pos h10]
      exact Or.inl ⟨-1, Or.inl rfl, rfl, rfl⟩
    rw [if_neg h10, if_neg h10]
    by_cases h4 : a3 < 1
    · rw [if_pos h4, if_pos h4]
      exact Or.inl ⟨-2, Or.inr (Or.inl rfl), rfl, rfl⟩
    rw [if_neg h4, if_neg h4]
    by_cases h5 : (2 : Int32) < a3
    · rw [if_pos h5, if_pos h5]
      exact Or.inl ⟨-2, Or.inr (Or.inl rfl), rfl, rfl⟩
    rw [if_neg h5, if_neg h5]
    by_cases h6 : a4 < 1
    · rw [if_pos h6, if_pos h6]
      exact Or.inl ⟨-2, Or.inr (Or.inl rfl), rfl, rfl⟩
    rw [if_neg h6, if_neg h6]
    by_cases h7 : a4 ≤ 10
    case neg =>
      rw [if_neg h7, if_neg h7]
      exact Or.inl ⟨-2, Or.inr (Or.inl rfl), rfl, rfl⟩
    rw [if_pos h7, if_pos h7]
    by_cases h8 : σm 41 a1.toNatClampNeg = 0
    case neg =>
      rw [if_neg h8, if_neg h8, j119_1_n (Or.inl rfl)]
      exact Or.inl ⟨-3, Or.inr (Or.inr (Or.inl rfl)), rfl, rfl⟩
    rw [if_pos h8, if_pos h8]
    by_cases h11 : σm 41 a2.toNatClampNeg = 0
    case neg =>
      rw [if_neg h11, if_neg h11, j119_1_n (Or.inl rfl)]
      exact Or.inl ⟨-3, Or.inr (Or.inr (Or.inl rfl)), rfl, rfl⟩
    rw [if_pos h11, if_pos h11]
    by_cases g : ∀ s : Nat, s < a3.toNatClampNeg → opn σm a4 s
    case neg =>
      rw [B.2 g, j119_1_n (Or.inr g)]
      exact Or.inl ⟨-3, Or.inr (Or.inr (Or.inl rfl)), rfl, rfl⟩
    rw [B.1 g, j119_1_y (by decide) g]
    by_cases h9 : σm 1 0 + a3 * a4 ≤ 720
    case neg =>
      rw [if_neg h9, if_neg h9]
      exact Or.inl ⟨-6, Or.inr (Or.inr (Or.inr rfl)), rfl, rfl⟩
    rw [if_pos h9, if_pos h9]
    exact Or.inr ⟨rfl, h1, h2, h4, h6, h7, h9, g, Or.inr ⟨h3, h10, h5, rfl⟩⟩
