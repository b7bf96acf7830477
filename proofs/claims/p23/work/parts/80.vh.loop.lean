/-! turns: the loop over the trials -/
def LR (vx vm : Int32) : Prop := (vx = -9 ∧ vm = -1) ∨ (vx = vm ∧ 0 ≤ vm.toInt)
def JB (σm xR : St) (S : Nat) (vx : Int32) (x : St) (vm : Int32) (y : St) : Prop := LR vx vm ∧ (∀ f : Nat, f ≠ 602 → f ≠ 603 → f ≠ 604 → x f = xR f) ∧ (∀ f : Nat, f ≠ 43 → f ≠ 44 → f ≠ 45 → f ≠ 46 → f ≠ 47 → f ≠ 48 → y f = σm f) ∧ (0 ≤ vm.toInt → ∀ k, k < S → x 603 k = y 48 k)
def JD (P S : Nat) (x y : St) : Prop := (∀ i, i < S → x 602 i = y 47 i) ∧ okT y P S
theorem nt_e (x : St) (a1 : Int32) {S : Nat} (hs : s_X6_slots x = nI S) (S4 : S ≤ 4) : s_X6_nextTrial x a1 = s_X6_nextTrial_c7r (iterDR (s_X6_nextTrial_l7 a1) S x) := by
  unfold s_X6_nextTrial
  rw [hs, nI_clamp (by omega)]
theorem cpy_e (x : St) {k : Nat} (hk : k < 4) : pcpy x 603 k = x 602 k := by
  show va_cpy (x 602) (x 603) 0 0 4 k = x 602 k
  unfold va_cpy
  rw [if_pos ⟨Nat.zero_le k, by omega⟩, Nat.sub_zero, Nat.zero_add]
theorem lr_lt {vx vm h : Int32} (L : LR vx vm) (h0 : 0 ≤ h.toInt) : ((vx = -9 ∨ ¬ vx ≤ h) ↔ (vm < 0 ∨ ¬ vm ≤ h)) := by
  rcases L with ⟨a, b⟩ | ⟨a, b⟩
  · rw [a, b]
    exact ⟨fun _ => Or.inl (by decide), fun _ => Or.inl rfl⟩
  · rw [a]
    have n0 : ¬ vm < 0 := by
      rw [Int32.lt_iff_toInt_lt, show (0 : Int32).toInt = 0 by decide]
      omega
    have n9 : ¬ vm = -9 := fun e => by
      rw [e, show (-9 : Int32).toInt = -9 by decide] at b
      omega
    exact ⟨fun q => q.elim (fun z => absurd z n9) Or.inr, fun q => q.elim (fun z => absurd z n0) Or.inr⟩
/-- a round of the class -/
theorem cx_step {σm xR : St} {S : Nat} {vx vm h a1 : Int32} {x y : St} (i : Nat) (S4 : S ≤ 4) (J : JB σm xR S vx x vm y) (hh : (s_X6_hungerOfTrial x).1 = h) (h0 : 0 ≤ h.toInt) : (s_X6_isOpen x = 0 → s_X6_choose_l38 a1 i (vx, x) = (vx, s_X6_nextTrial x a1)) ∧ (¬ s_X6_isOpen x = 0 → ∃ x1 : St, (∀ f : Nat, f ≠ 603 → f ≠ 604 → x1 f = x f) ∧ ((vm < 0 ∨ ¬ vm ≤ h) → s_X6_choose_l38 a1 i (vx, x) = (h, s_X6_nextTrial x1 a1) ∧ ∀ k, k < S → x1 603 k = x 602 k) ∧ (¬ (vm < 0 ∨ ¬ vm ≤ h) → s_X6_choose_l38 a1 i (vx, x) = (vx, s_X6_nextTrial x1 a1) ∧ x1 603 = x 603)) := by
  have lt := lr_lt J.1 h0
  have fh : ∀ f : Nat, f ≠ 604 → (s_X6_hungerOfTrial x).2 f = x f := fun f q => fr_s_X6_hungerOfTrial x q
  obtain ⟨r, hr⟩ : ∃ r, s_X6_hungerOfTrial x = r := ⟨_, rfl⟩
  rw [hr] at hh fh
  refine ⟨fun c => ?_, fun c => ?_⟩
  · unfold s_X6_choose_l38 s_X6_choose_j86
    try dsimp only
    rw [if_pos c]
  · by_cases q : vm < 0 ∨ ¬ vm ≤ h
    · refine ⟨pcpy r.2, fun f a b => (pcpy_fr a).trans (fh f b), fun _ => ⟨?_, fun k hk => ?_⟩, fun z => absurd q z⟩
      · unfold s_X6_choose_l38 s_X6_choose_j86
        try dsimp only
        rw [if_neg c, hr, hh]
        rcases lt.mpr q with z | z
        · rw [if_pos z]
        · rw [if_neg z]
          split <;> rfl
      · rw [cpy_e r.2 (by omega), fh 602 (by decide)]
    · refine ⟨r.2, fun f a b => fh f b, fun z => absurd z q, fun _ => ⟨?_, fh 603 (by decide)⟩⟩
      have nq : ¬ (vx = -9 ∨ ¬ vx ≤ h) := fun z => q (lt.mp z)
      have n1 : ¬ vx = -9 := fun z => nq (Or.inl z)
      have n2 : vx ≤ h := Decidable.byContradiction (fun z => nq (Or.inr z))
      unfold s_X6_choose_l38 s_X6_choose_j86
      try dsimp only
      rw [if_neg c, hr, hh, if_neg n1, if_pos n2]
theorem nI_p {k : Nat} (h : k < 100) : nI (k + 1) - 1 = nI k := by
  have o1 : (1 : Int32).toInt = 1 := by decide
  rw [← Int32.toInt_inj, sub_ti (by rw [nI_toInt (by omega), o1]; omega) (by rw [nI_toInt (by omega), o1]; omega), nI_toInt (by omega), nI_toInt (by omega), o1]
  omega
/-- a round of the reference -/
theorem cm_step {S : Nat} {vm a1 a2 a3 a4 h : Int32} {y : St} (i : Nat) (hS : ((1 : Int32) * a3).toNatClampNeg = S) (hh : (s_X9_tries y a1 a2 (1 : Int32) a3 a4).1 = h) (more : Int32) (hm : ¬ more = 0) : ((¬ ∀ k, k < S → ¬ s_X9_mayTake y (nI k / (1 : Int32)) (y 47 k) a4 = 0) → s_X9_plan_l261 a1 a2 a3 a4 i (more, vm, y) = s_X9_plan_c389 vm (iterDC s_X9_plan_l389 S y)) ∧ ((∀ k, k < S → ¬ s_X9_mayTake y (nI k / (1 : Int32)) (y 47 k) a4 = 0) → ∃ y1 : St, (∀ f : Nat, f ≠ 43 → f ≠ 44 → f ≠ 45 → f ≠ 46 → f ≠ 48 → y1 f = y f) ∧ ((vm < 0 ∨ ¬ vm ≤ h) → s_X9_plan_l261 a1 a2 a3 a4 i (more, vm, y) = s_X9_plan_c389 h (iterDC s_X9_plan_l389 S y1) ∧ ∀ k, k < S → y1 48 k = y 47 k) ∧ (¬ (vm < 0 ∨ ¬ vm ≤ h) → s_X9_plan_l261 a1 a2 a3 a4 i (more, vm, y) = s_X9_plan_c389 vm (iterDC s_X9_plan_l389 S y1) ∧ y1 48 = y 48)) := by
  have op := gdc_e (c := fun k => ¬ s_X9_mayTake y (nI k / (1 : Int32)) (y 47 k) a4 = 0) (L := s_X9_plan_l272 a4 y) (fun k v => ⟨fun z => by
    unfold s_X9_plan_l272
    try dsimp only
    rw [if_pos z], fun z => ⟨s_X9_mayTake y (nI k / (1 : Int32)) (y 47 k) a4, by
    unfold s_X9_plan_l272
    try dsimp only
    rw [if_neg z], Iff.rfl⟩⟩) S 0 1
  obtain ⟨v10, hv10⟩ : ∃ v, iterC (s_X9_plan_l272 a4 y) S 0 (1 : Int32) = v := ⟨_, rfl⟩
  rw [hv10] at op
  have e0 : s_X9_plan_l261 a1 a2 a3 a4 i (more, vm, y) = s_X9_plan_c272 a1 a2 a3 a4 vm y v10 := by
    unfold s_X9_plan_l261
    try dsimp only
    rw [if_neg hm, hS, Nat.sub_zero, hv10]
  have ft : ∀ f : Nat, f ≠ 43 → f ≠ 44 → f ≠ 45 → f ≠ 46 → (s_X9_tries y a1 a2 (1 : Int32) a3 a4).2 f = y f := fun f a b c d => fr_s_X9_tries y a1 a2 (1 : Int32) a3 a4 a b c d
  obtain ⟨t, ht⟩ : ∃ t, s_X9_tries y a1 a2 (1 : Int32) a3 a4 = t := ⟨_, rfl⟩
  rw [ht] at ft hh
  refine ⟨fun c => ?_, fun c => ?_⟩
  · have z : v10 = 0 := Decidable.byContradiction (fun q => c (fun k hk => (op.mp q).2 k (Nat.zero_le k) (by omega)))
    rw [e0]
    unfold s_X9_plan_c272 s_X9_plan_j330 s_X9_plan_j383
    try dsimp only
    rw [if_pos z, if_pos z, hS]
  · have z : ¬ v10 = 0 := op.mpr ⟨by decide, fun k _ hk => c k (by omega)⟩
    have cp : ∀ (L : Nat → St → St), (∀ k s, L k s = put s 48 k (s 47 k)) → (∀ f : Nat, f ≠ 48 → iter L S 0 t.2 f = t.2 f) ∧ ∀ k, k < S → iter L S 0 t.2 48 k = y 47 k := fun L hL => by
      have key := it_ind (L := L) (P := fun j (s : St) => (∀ f : Nat, f ≠ 48 → s f = t.2 f) ∧ ∀ k, k < j → s 48 k = y 47 k) (s := t.2) ⟨fun _ _ => rfl, fun k hk => absurd hk (Nat.not_lt_zero k)⟩ S (fun j s _ ih => by
        rw [hL]
        refine ⟨fun f q => (put_fr q).trans (ih.1 f q), fun k hk => ?_⟩
        show upd (s 48) j (s 47 j) k = y 47 k
        by_cases q : k = j
        · rw [q, pk_us, ih.1 47 (by decide), ft 47 (by decide) (by decide) (by decide) (by decide)]
        · rw [pk_un q]
          exact ih.2 k (by omega))
      exact key
    have e1 : s_X9_plan_c272 a1 a2 a3 a4 vm y v10 = s_X9_plan_j330 a3 vm v10 h t.2 := by
      unfold s_X9_plan_c272
      try dsimp only
      rw [if_neg z, ht, hh]
    by_cases q : vm < 0 ∨ ¬ vm ≤ h
    · by_cases q1 : vm < 0
      · obtain ⟨c1, c2⟩ := cp s_X9_plan_l356 (fun k s => rfl)
        refine ⟨iter s_X9_plan_l356 S 0 t.2, fun f a b d e g => (c1 f g).trans (ft f a b d e), fun _ => ⟨?_, c2⟩, fun w => absurd q w⟩
        rw [e0, e1]
        unfold s_X9_plan_j330 s_X9_plan_c356 s_X9_plan_j383
        try dsimp only
        rw [if_neg z, if_pos q1, hS, Nat.sub_zero]
      · obtain ⟨c1, c2⟩ := cp s_X9_plan_l356_1 (fun k s => rfl)
        have q2 : ¬ vm ≤ h := q.elim (fun w => absurd w q1) id
        refine ⟨iter s_X9_plan_l356_1 S 0 t.2, fun f a b d e g => (c1 f g).trans (ft f a b d e), fun _ => ⟨?_, c2⟩, fun w => absurd q w⟩
        rw [e0, e1]
        unfold s_X9_plan_j330 s_X9_plan_c356_1 s_X9_plan_j383
        try dsimp only
        rw [if_neg z, if_neg q1, if_neg q2, hS, Nat.sub_zero]
    · have q1 : ¬ vm < 0 := fun w => q (Or.inl w)
      have q2 : vm ≤ h := Decidable.byContradiction (fun w => q (Or.inr w))
      refine ⟨t.2, fun f a b d e _ => ft f a b d e, fun w => absurd w q, fun _ => ⟨?_, ft 48 (by decide) (by decide) (by decide) (by decide)⟩⟩
      rw [e0, e1]
      unfold s_X9_plan_j330 s_X9_plan_j383
      try dsimp only
      rw [if_neg z, if_neg q1, if_pos q2, hS]
theorem ch_loop {σm xR : St} {S P : Nat} {b1 a1 a2 a3 a4 : Int32} (hS : ((1 : Int32) * a3).toNatClampNeg = S) (S4 : S ≤ 4) (hP : b1 = nI P) (P6 : P ≤ 6) (P0 : 0 < P) (h2 : σm 2 0 = nI P) (hsl : ∀ x : St, x 607 = xR 607 → x 608 = xR 608 → s_X6_slots x = nI S) (V : St → Int32) (hV0 : ∀ y, 0 ≤ (V y).toInt) (hx : ∀ x y : St, (∀ f : Nat, f ≠ 602 → f ≠ 603 → f ≠ 604 → x f = xR f) → (∀ f : Nat, f ≠ 43 → f ≠ 44 → f ≠ 45 → f ≠ 46 → f ≠ 47 → f ≠ 48 → y f = σm f) → JD P S x y → (¬ s_X6_isOpen x = 0 ↔ ∀ k, k < S → ¬ s_X9_mayTake y (nI k / (1 : Int32)) (y 47 k) a4 = 0) ∧ (s_X6_hungerOfTrial x).1 = V y ∧ (s_X9_tries y a1 a2 (1 : Int32) a3 a4).1 = V y) (st : St) (hst : okT st P S) (hso : ∀ y : St, (∀ f : Nat, f ≠ 43 → f ≠ 44 → f ≠ 45 → f ≠ 46 → f ≠ 47 → f ≠ 48 → y f = σm f) → (∀ i, i < S → y 47 i = st 47 i) → ∀ k, k < S → ¬ s_X9_mayTake y (nI k / (1 : Int32)) (y 47 k) a4 = 0) : ∀ (m i : Nat) (vx vm more : Int32) (x y : St), i + m = P ^ S → JB σm xR S vx x vm y → (0 < m → more = 1 ∧ vl y P S = i ∧ JD P S x y) → (m = 0 → more = 0) → (vl st P S < i → 0 ≤ vm.toInt) → ∃ (vx2 vm2 : Int32) (x2 y2 : St), iter (s_X6_choose_l38 b1) m i (vx, x) = (vx2, x2) ∧ s_X9_plan_c261r (iterR (s_X9_plan_l261 a1 a2 a3 a4) (1 + m) i (more, vm, y)) = (vm2, put (put y2 49 0 a3) 50 0 (1 : Int32)) ∧ JB σm xR S vx2 x2 vm2 y2 ∧ 0 ≤ vm2.toInt := by
  intro m
  induction m with
  | zero =>
    intro i vx vm more x y hi J _ hm hl
    have hm := hm rfl
    have lt := vl_lt hst
    refine ⟨vx, vm, x, y, rfl, ?_, J, hl (by omega)⟩
    show s_X9_plan_c261r (iterR1 (s_X9_plan_l261 a1 a2 a3 a4) 0 i (s_X9_plan_l261 a1 a2 a3 a4 i (more, vm, y))) = _
    have e : s_X9_plan_l261 a1 a2 a3 a4 i (more, vm, y) = Sum.inl (vm, put (put y 49 0 a3) 50 0 (1 : Int32)) := by
      unfold s_X9_plan_l261
      try dsimp only
      rw [if_pos hm]
    rw [e]
    rfl
  | succ m ih =>
    intro i vx vm more x y hi J hd _ hl
    obtain ⟨hm, hvl, D⟩ := hd (by omega)
    have hm0 : ¬ more = 0 := by rw [hm]; decide
    obtain ⟨JL, Jx, Jy, Jb⟩ := J
    have J : JB σm xR S vx x vm y := ⟨JL, Jx, Jy, Jb⟩
    obtain ⟨X1, X2, X3⟩ := hx x y Jx Jy D
    have h0 := hV0 y
    have cx := cx_step (a1 := b1) i S4 J X2 h0
    have cm := cm_step (vm := vm) (a1 := a1) (a2 := a2) (a3 := a3) (a4 := a4) i hS X3 more hm0
    -- the state behind the trial: x1, y1
    obtain ⟨vx1, vm1, x1, y1, ex, em, J1, D1, op1⟩ : ∃ (vx1 vm1 : Int32) (x1 y1 : St), s_X6_choose_l38 b1 i (vx, x) = (vx1, s_X6_nextTrial x1 b1) ∧ s_X9_plan_l261 a1 a2 a3 a4 i (more, vm, y) = s_X9_plan_c389 vm1 (iterDC s_X9_plan_l389 S y1) ∧ JB σm xR S vx1 x1 vm1 y1 ∧ ((∀ j, j < S → x1 602 j = y1 47 j) ∧ y1 47 = y 47) ∧ (((∀ k, k < S → ¬ s_X9_mayTake y (nI k / (1 : Int32)) (y 47 k) a4 = 0) → 0 ≤ vm1.toInt) ∧ (0 ≤ vm.toInt → 0 ≤ vm1.toInt)) := by
      by_cases c : s_X6_isOpen x = 0
      · have nc : ¬ ∀ k, k < S → ¬ s_X9_mayTake y (nI k / (1 : Int32)) (y 47 k) a4 = 0 := fun q => X1.mpr q c
        exact ⟨vx, vm, x, y, cx.1 c, cm.1 nc, J, ⟨D.1, rfl⟩, fun q => absurd q nc, id⟩
      · have pc := X1.mp c
        obtain ⟨x1, fx1, ax1, bx1⟩ := cx.2 c
        obtain ⟨y1, fy1, ay1, by1⟩ := cm.2 pc
        have xf : ∀ f : Nat, f ≠ 602 → f ≠ 603 → f ≠ 604 → x1 f = xR f := fun f p q r => (fx1 f q r).trans (Jx f p q r)
        have yf : ∀ f : Nat, f ≠ 43 → f ≠ 44 → f ≠ 45 → f ≠ 46 → f ≠ 47 → f ≠ 48 → y1 f = σm f := fun f p q r s t u => (fy1 f p q r s u).trans (Jy f p q r s t u)
        have y47 : y1 47 = y 47 := fy1 47 (by decide) (by decide) (by decide) (by decide) (by decide)
        have x62 : x1 602 = x 602 := fx1 602 (by decide) (by decide)
        have dg : ∀ j, j < S → x1 602 j = y1 47 j := fun j hj => by
          rw [x62, y47]
          exact D.1 j hj
        by_cases q : vm < 0 ∨ ¬ vm ≤ V y
        · obtain ⟨a1', a2'⟩ := ax1 q
          obtain ⟨b1', b2'⟩ := ay1 q
          refine ⟨V y, V y, x1, y1, a1', b1', ⟨Or.inr ⟨rfl, h0⟩, xf, yf, fun _ k hk => ?_⟩, ⟨dg, y47⟩, fun _ => h0, fun _ => h0⟩
          rw [a2' k hk, b2' k hk]
          exact D.1 k hk
        · obtain ⟨a1', a2'⟩ := bx1 q
          obtain ⟨b1', b2'⟩ := by1 q
          have p0 : 0 ≤ vm.toInt := by
            have n0 : ¬ vm < 0 := fun w => q (Or.inl w)
            rw [Int32.lt_iff_toInt_lt, show (0 : Int32).toInt = 0 by decide] at n0
            omega
          refine ⟨vx, vm, x1, y1, a1', b1', ⟨JL, xf, yf, fun z k hk => ?_⟩, ⟨dg, y47⟩, fun _ => p0, id⟩
          rw [a2', b2']
          exact Jb z k hk
    have ok1 : okT y1 P S := okT_cast D1.2 D.2
    have vl1 : vl y1 P S = i := (vl_cast D1.2).trans hvl
    have y12 : y1 2 0 = nI P := by rw [J1.2.2.1 2 (by decide) (by decide) (by decide) (by decide) (by decide) (by decide)]; exact h2
    have N := nx_eq (a1 := b1) (P := P) (SS := S) hP P6 P0 S4 (L := s_X9_plan_l389) (fun k t => rfl) (y0 := y1) S x1 y1 (Nat.le_refl S) y12 D1.1 (cv_start ok1)
    obtain ⟨yy, hyy⟩ : ∃ q, iterDC s_X9_plan_l389 S y1 = q := ⟨_, rfl⟩
    rw [hyy] at N em
    obtain ⟨j, y3⟩ := yy
    obtain ⟨N1, N2, N3, N4⟩ := N
    have N1 : CV y1 y3 P S j := N1
    have N2 : j ≤ S := N2
    have N3 : ∀ f : Nat, f ≠ 47 → y3 f = y1 f := N3
    have fx3 : ∀ f : Nat, f ≠ 602 → s_X6_nextTrial x1 b1 f = x1 f := fun f q => fr_s_X6_nextTrial x1 b1 q
    have nte := nt_e x1 b1 (hsl x1 (J1.2.1 607 (by decide) (by decide) (by decide)) (J1.2.1 608 (by decide) (by decide) (by decide))) S4
    have hl1 : vl st P S < i + 1 → 0 ≤ vm1.toInt := fun q => by
      by_cases e : vl st P S = i
      · refine op1.1 (hso y Jy (vl_inj D.2 hst (hvl.trans e.symm)))
      · exact op1.2 (hl (by omega))
    have eX : iter (s_X6_choose_l38 b1) (m + 1) i (vx, x) = iter (s_X6_choose_l38 b1) m (i + 1) (vx1, s_X6_nextTrial x1 b1) := by
      show iter (s_X6_choose_l38 b1) m (i + 1) (s_X6_choose_l38 b1 i (vx, x)) = _
      rw [ex]
    have eM : iterR (s_X9_plan_l261 a1 a2 a3 a4) (1 + (m + 1)) i (more, vm, y) = iterR1 (s_X9_plan_l261 a1 a2 a3 a4) (1 + m) i (s_X9_plan_c389 vm1 (j, y3)) := by
      rw [show 1 + (m + 1) = (1 + m) + 1 by omega, ← em]
      rfl
    rw [eX, eM]
    have J3 : ∀ t : St, (∀ f : Nat, f ≠ 47 → t f = y1 f) → JB σm xR S vx1 (s_X6_nextTrial x1 b1) vm1 t := fun t ht => ⟨J1.1, fun f p q r => (fx3 f p).trans (J1.2.1 f p q r), fun f p q r s u v => (ht f u).trans (J1.2.2.1 f p q r s u v), fun z k hk => by
      rw [fx3 603 (by decide), ht 48 (by decide)]
      exact J1.2.2.2 z k hk⟩
    rcases N4 with ⟨j0, -⟩ | ⟨k, jk, kP, k0, x2, ex2, dx2⟩
    · have j0 : j = 0 := j0
      subst j0
      have ec : s_X9_plan_c389 vm1 (0, y3) = Sum.inr (0, vm1, y3) := by
        unfold s_X9_plan_c389
        try dsimp only
        rw [if_pos (by decide)]
      rw [ec]
      have full : i + 1 = P ^ S := by
        have := N1.2.2.2
        rw [vl1, Nat.sub_zero] at this
        rw [this]
        show (0 + 1) * P ^ S = P ^ S
        rw [Nat.zero_add, Nat.one_mul]
      have m0 : m = 0 := by omega
      exact ih (i + 1) vx1 vm1 0 (s_X6_nextTrial x1 b1) y3 (by omega) (J3 y3 N3) (fun q => by omega) (fun _ => rfl) hl1
    · have jk : j = k + 1 := jk
      subst jk
      have kP : (y3 47 k).toNatClampNeg + 1 < P := kP
      have k0 : 0 ≤ (y3 47 k).toInt := k0
      have ec : s_X9_plan_c389 vm1 (k + 1, y3) = Sum.inr (1, vm1, put y3 47 k (y3 47 k + 1)) := by
        unfold s_X9_plan_c389
        try dsimp only
        rw [nI_p (by omega), if_neg (nI_n0 (by omega)), nI_clamp (by omega)]
      rw [ec]
      have o1 : (1 : Int32).toInt = 1 := by decide
      have en : (y3 47 k + 1).toNatClampNeg = (y3 47 k).toNatClampNeg + 1 := by
        have := kP
        rw [tn_toInt] at this
        rw [tn_toInt, tn_toInt, add_ti (by rw [o1]; omega) (by rw [o1]; omega), o1]
        omega
      have vl2 : vl (put y3 47 k (y3 47 k + 1)) P S = i + 1 := by rw [cv_done N1 en, vl1]
      have ok2 : okT (put y3 47 k (y3 47 k + 1)) P S := fun q hq => by
        show 0 ≤ (upd (y3 47) k (y3 47 k + 1) q).toInt ∧ (upd (y3 47) k (y3 47 k + 1) q).toNatClampNeg < P
        by_cases e : q = k
        · rw [e, pk_us, en]
          refine ⟨?_, kP⟩
          rw [tn_toInt] at kP
          rw [add_ti (by rw [o1]; omega) (by rw [o1]; omega), o1]
          omega
        · rw [pk_un e]
          exact N1.2.1 q hq
      have lt2 := vl_lt ok2
      rw [vl2] at lt2
      have nx : s_X6_nextTrial x1 b1 = x2 := by rw [nte, ex2]; rfl
      exact ih (i + 1) vx1 vm1 1 (s_X6_nextTrial x1 b1) (put y3 47 k (y3 47 k + 1)) (by omega) (J3 _ (fun f q => (put_fr q).trans (N3 f q))) (fun _ => ⟨rfl, vl2, fun q hq => by rw [nx]; exact dx2 q hq, ok2⟩) (fun q => by omega) hl1
/-- a round of the reference -/
theorem cm_step_1 {S : Nat} {vm a1 a2 a3 a4 h : Int32} {y : St} (i : Nat) (hS : ((2 : Int32) * a3).toNatClampNeg = S) (hh : (s_X9_tries y a1 a2 (2 : Int32) a3 a4).1 = h) (more : Int32) (hm : ¬ more = 0) : ((¬ ∀ k, k < S → ¬ s_X9_mayTake y (nI k / (2 : Int32)) (y 47 k) a4 = 0) → s_X9_plan_l261_1 a1 a2 a3 a4 i (more, vm, y) = s_X9_plan_c389_1 vm (iterDC s_X9_plan_l389_1 S y)) ∧ ((∀ k, k < S → ¬ s_X9_mayTake y (nI k / (2 : Int32)) (y 47 k) a4 = 0) → ∃ y1 : St, (∀ f : Nat, f ≠ 43 → f ≠ 44 → f ≠ 45 → f ≠ 46 → f ≠ 48 → y1 f = y f) ∧ ((vm < 0 ∨ ¬ vm ≤ h) → s_X9_plan_l261_1 a1 a2 a3 a4 i (more, vm, y) = s_X9_plan_c389_1 h (iterDC s_X9_plan_l389_1 S y1) ∧ ∀ k, k < S → y1 48 k = y 47 k) ∧ (¬ (vm < 0 ∨ ¬ vm ≤ h) → s_X9_plan_l261_1 a1 a2 a3 a4 i (more, vm, y) = s_X9_plan_c389_1 vm (iterDC s_X9_plan_l389_1 S y1) ∧ y1 48 = y 48)) := by
  have op := gdc_e (c := fun k => ¬ s_X9_mayTake y (nI k / (2 : Int32)) (y 47 k) a4 = 0) (L := s_X9_plan_l272_1 a4 y) (fun k v => ⟨fun z => by
    unfold s_X9_plan_l272_1
    try dsimp only
    rw [if_pos z], fun z => ⟨s_X9_mayTake y (nI k / (2 : Int32)) (y 47 k) a4, by
    unfold s_X9_plan_l272_1
    try dsimp only
    rw [if_neg z], Iff.rfl⟩⟩) S 0 1
  obtain ⟨v10, hv10⟩ : ∃ v, iterC (s_X9_plan_l272_1 a4 y) S 0 (1 : Int32) = v := ⟨_, rfl⟩
  rw [hv10] at op
  have e0 : s_X9_plan_l261_1 a1 a2 a3 a4 i (more, vm, y) = s_X9_plan_c272_1 a1 a2 a3 a4 vm y v10 := by
    unfold s_X9_plan_l261_1
    try dsimp only
    rw [if_neg hm, hS, Nat.sub_zero, hv10]
  have ft : ∀ f : Nat, f ≠ 43 → f ≠ 44 → f ≠ 45 → f ≠ 46 → (s_X9_tries y a1 a2 (2 : Int32) a3 a4).2 f = y f := fun f a b c d => fr_s_X9_tries y a1 a2 (2 : Int32) a3 a4 a b c d
  obtain ⟨t, ht⟩ : ∃ t, s_X9_tries y a1 a2 (2 : Int32) a3 a4 = t := ⟨_, rfl⟩
  rw [ht] at ft hh
  refine ⟨fun c => ?_, fun c => ?_⟩
  · have z : v10 = 0 := Decidable.byContradiction (fun q => c (fun k hk => (op.mp q).2 k (Nat.zero_le k) (by omega)))
    rw [e0]
    unfold s_X9_plan_c272_1 s_X9_plan_j330_1 s_X9_plan_j383_1
    try dsimp only
    rw [if_pos z, if_pos z, hS]
  · have z : ¬ v10 = 0 := op.mpr ⟨by decide, fun k _ hk => c k (by omega)⟩
    have cp : ∀ (L : Nat → St → St), (∀ k s, L k s = put s 48 k (s 47 k)) → (∀ f : Nat, f ≠ 48 → iter L S 0 t.2 f = t.2 f) ∧ ∀ k, k < S → iter L S 0 t.2 48 k = y 47 k := fun L hL => by
      have key := it_ind (L := L) (P := fun j (s : St) => (∀ f : Nat, f ≠ 48 → s f = t.2 f) ∧ ∀ k, k < j → s 48 k = y 47 k) (s := t.2) ⟨fun _ _ => rfl, fun k hk => absurd hk (Nat.not_lt_zero k)⟩ S (fun j s _ ih => by
        rw [hL]
        refine ⟨fun f q => (put_fr q).trans (ih.1 f q), fun k hk => ?_⟩
        show upd (s 48) j (s 47 j) k = y 47 k
        by_cases q : k = j
        · rw [q, pk_us, ih.1 47 (by decide), ft 47 (by decide) (by decide) (by decide) (by decide)]
        · rw [pk_un q]
          exact ih.2 k (by omega))
      exact key
    have e1 : s_X9_plan_c272_1 a1 a2 a3 a4 vm y v10 = s_X9_plan_j330_1 a3 vm v10 h t.2 := by
      unfold s_X9_plan_c272_1
      try dsimp only
      rw [if_neg z, ht, hh]
    by_cases q : vm < 0 ∨ ¬ vm ≤ h
    · by_cases q1 : vm < 0
      · obtain ⟨c1, c2⟩ := cp s_X9_plan_l356_2 (fun k s => rfl)
        refine ⟨iter s_X9_plan_l356_2 S 0 t.2, fun f a b d e g => (c1 f g).trans (ft f a b d e), fun _ => ⟨?_, c2⟩, fun w => absurd q w⟩
        rw [e0, e1]
        unfold s_X9_plan_j330_1 s_X9_plan_c356_2 s_X9_plan_j383_1
        try dsimp only
        rw [if_neg z, if_pos q1, hS, Nat.sub_zero]
      · obtain ⟨c1, c2⟩ := cp s_X9_plan_l356_3 (fun k s => rfl)
        have q2 : ¬ vm ≤ h := q.elim (fun w => absurd w q1) id
        refine ⟨iter s_X9_plan_l356_3 S 0 t.2, fun f a b d e g => (c1 f g).trans (ft f a b d e), fun _ => ⟨?_, c2⟩, fun w => absurd q w⟩
        rw [e0, e1]
        unfold s_X9_plan_j330_1 s_X9_plan_c356_3 s_X9_plan_j383_1
        try dsimp only
        rw [if_neg z, if_neg q1, if_neg q2, hS, Nat.sub_zero]
    · have q1 : ¬ vm < 0 := fun w => q (Or.inl w)
      have q2 : vm ≤ h := Decidable.byContradiction (fun w => q (Or.inr w))
      refine ⟨t.2, fun f a b d e _ => ft f a b d e, fun w => absurd w q, fun _ => ⟨?_, ft 48 (by decide) (by decide) (by decide) (by decide)⟩⟩
      rw [e0, e1]
      unfold s_X9_plan_j330_1 s_X9_plan_j383_1
      try dsimp only
      rw [if_neg z, if_neg q1, if_pos q2, hS]
theorem ch_loop_1 {σm xR : St} {S P : Nat} {b1 a1 a2 a3 a4 : Int32} (hS : ((2 : Int32) * a3).toNatClampNeg = S) (S4 : S ≤ 4) (hP : b1 = nI P) (P6 : P ≤ 6) (P0 : 0 < P) (h2 : σm 2 0 = nI P) (hsl : ∀ x : St, x 607 = xR 607 → x 608 = xR 608 → s_X6_slots x = nI S) (V : St → Int32) (hV0 : ∀ y, 0 ≤ (V y).toInt) (hx : ∀ x y : St, (∀ f : Nat, f ≠ 602 → f ≠ 603 → f ≠ 604 → x f = xR f) → (∀ f : Nat, f ≠ 43 → f ≠ 44 → f ≠ 45 → f ≠ 46 → f ≠ 47 → f ≠ 48 → y f = σm f) → JD P S x y → (¬ s_X6_isOpen x = 0 ↔ ∀ k, k < S → ¬ s_X9_mayTake y (nI k / (2 : Int32)) (y 47 k) a4 = 0) ∧ (s_X6_hungerOfTrial x).1 = V y ∧ (s_X9_tries y a1 a2 (2 : Int32) a3 a4).1 = V y) (st : St) (hst : okT st P S) (hso : ∀ y : St, (∀ f : Nat, f ≠ 43 → f ≠ 44 → f ≠ 45 → f ≠ 46 → f ≠ 47 → f ≠ 48 → y f = σm f) → (∀ i, i < S → y 47 i = st 47 i) → ∀ k, k < S → ¬ s_X9_mayTake y (nI k / (2 : Int32)) (y 47 k) a4 = 0) : ∀ (m i : Nat) (vx vm more : Int32) (x y : St), i + m = P ^ S → JB σm xR S vx x vm y → (0 < m → more = 1 ∧ vl y P S = i ∧ JD P S x y) → (m = 0 → more = 0) → (vl st P S < i → 0 ≤ vm.toInt) → ∃ (vx2 vm2 : Int32) (x2 y2 : St), iter (s_X6_choose_l38 b1) m i (vx, x) = (vx2, x2) ∧ s_X9_plan_c261r_1 (iterR (s_X9_plan_l261_1 a1 a2 a3 a4) (1 + m) i (more, vm, y)) = (vm2, put (put y2 49 0 a3) 50 0 (2 : Int32)) ∧ JB σm xR S vx2 x2 vm2 y2 ∧ 0 ≤ vm2.toInt := by
  intro m
  induction m with
  | zero =>
    intro i vx vm more x y hi J _ hm hl
    have hm := hm rfl
    have lt := vl_lt hst
    refine ⟨vx, vm, x, y, rfl, ?_, J, hl (by omega)⟩
    show s_X9_plan_c261r_1 (iterR1 (s_X9_plan_l261_1 a1 a2 a3 a4) 0 i (s_X9_plan_l261_1 a1 a2 a3 a4 i (more, vm, y))) = _
    have e : s_X9_plan_l261_1 a1 a2 a3 a4 i (more, vm, y) = Sum.inl (vm, put (put y 49 0 a3) 50 0 (2 : Int32)) := by
      unfold s_X9_plan_l261_1
      try dsimp only
      rw [if_pos hm]
    rw [e]
    rfl
  | succ m ih =>
    intro i vx vm more x y hi J hd _ hl
    obtain ⟨hm, hvl, D⟩ := hd (by omega)
    have hm0 : ¬ more = 0 := by rw [hm]; decide
    obtain ⟨JL, Jx, Jy, Jb⟩ := J
    have J : JB σm xR S vx x vm y := ⟨JL, Jx, Jy, Jb⟩
    obtain ⟨X1, X2, X3⟩ := hx x y Jx Jy D
    have h0 := hV0 y
    have cx := cx_step (a1 := b1) i S4 J X2 h0
    have cm := cm_step_1 (vm := vm) (a1 := a1) (a2 := a2) (a3 := a3) (a4 := a4) i hS X3 more hm0
    -- the state behind the trial: x1, y1
    obtain ⟨vx1, vm1, x1, y1, ex, em, J1, D1, op1⟩ : ∃ (vx1 vm1 : Int32) (x1 y1 : St), s_X6_choose_l38 b1 i (vx, x) = (vx1, s_X6_nextTrial x1 b1) ∧ s_X9_plan_l261_1 a1 a2 a3 a4 i (more, vm, y) = s_X9_plan_c389_1 vm1 (iterDC s_X9_plan_l389_1 S y1) ∧ JB σm xR S vx1 x1 vm1 y1 ∧ ((∀ j, j < S → x1 602 j = y1 47 j) ∧ y1 47 = y 47) ∧ (((∀ k, k < S → ¬ s_X9_mayTake y (nI k / (2 : Int32)) (y 47 k) a4 = 0) → 0 ≤ vm1.toInt) ∧ (0 ≤ vm.toInt → 0 ≤ vm1.toInt)) := by
      by_cases c : s_X6_isOpen x = 0
      · have nc : ¬ ∀ k, k < S → ¬ s_X9_mayTake y (nI k / (2 : Int32)) (y 47 k) a4 = 0 := fun q => X1.mpr q c
        exact ⟨vx, vm, x, y, cx.1 c, cm.1 nc, J, ⟨D.1, rfl⟩, fun q => absurd q nc, id⟩
      · have pc := X1.mp c
        obtain ⟨x1, fx1, ax1, bx1⟩ := cx.2 c
        obtain ⟨y1, fy1, ay1, by1⟩ := cm.2 pc
        have xf : ∀ f : Nat, f ≠ 602 → f ≠ 603 → f ≠ 604 → x1 f = xR f := fun f p q r => (fx1 f q r).trans (Jx f p q r)
        have yf : ∀ f : Nat, f ≠ 43 → f ≠ 44 → f ≠ 45 → f ≠ 46 → f ≠ 47 → f ≠ 48 → y1 f = σm f := fun f p q r s t u => (fy1 f p q r s u).trans (Jy f p q r s t u)
        have y47 : y1 47 = y 47 := fy1 47 (by decide) (by decide) (by decide) (by decide) (by decide)
        have x62 : x1 602 = x 602 := fx1 602 (by decide) (by decide)
        have dg : ∀ j, j < S → x1 602 j = y1 47 j := fun j hj => by
          rw [x62, y47]
          exact D.1 j hj
        by_cases q : vm < 0 ∨ ¬ vm ≤ V y
        · obtain ⟨a1', a2'⟩ := ax1 q
          obtain ⟨b1', b2'⟩ := ay1 q
          refine ⟨V y, V y, x1, y1, a1', b1', ⟨Or.inr ⟨rfl, h0⟩, xf, yf, fun _ k hk => ?_⟩, ⟨dg, y47⟩, fun _ => h0, fun _ => h0⟩
          rw [a2' k hk, b2' k hk]
          exact D.1 k hk
        · obtain ⟨a1', a2'⟩ := bx1 q
          obtain ⟨b1', b2'⟩ := by1 q
          have p0 : 0 ≤ vm.toInt := by
            have n0 : ¬ vm < 0 := fun w => q (Or.inl w)
            rw [Int32.lt_iff_toInt_lt, show (0 : Int32).toInt = 0 by decide] at n0
            omega
          refine ⟨vx, vm, x1, y1, a1', b1', ⟨JL, xf, yf, fun z k hk => ?_⟩, ⟨dg, y47⟩, fun _ => p0, id⟩
          rw [a2', b2']
          exact Jb z k hk
    have ok1 : okT y1 P S := okT_cast D1.2 D.2
    have vl1 : vl y1 P S = i := (vl_cast D1.2).trans hvl
    have y12 : y1 2 0 = nI P := by rw [J1.2.2.1 2 (by decide) (by decide) (by decide) (by decide) (by decide) (by decide)]; exact h2
    have N := nx_eq (a1 := b1) (P := P) (SS := S) hP P6 P0 S4 (L := s_X9_plan_l389_1) (fun k t => rfl) (y0 := y1) S x1 y1 (Nat.le_refl S) y12 D1.1 (cv_start ok1)
    obtain ⟨yy, hyy⟩ : ∃ q, iterDC s_X9_plan_l389_1 S y1 = q := ⟨_, rfl⟩
    rw [hyy] at N em
    obtain ⟨j, y3⟩ := yy
    obtain ⟨N1, N2, N3, N4⟩ := N
    have N1 : CV y1 y3 P S j := N1
    have N2 : j ≤ S := N2
    have N3 : ∀ f : Nat, f ≠ 47 → y3 f = y1 f := N3
    have fx3 : ∀ f : Nat, f ≠ 602 → s_X6_nextTrial x1 b1 f = x1 f := fun f q => fr_s_X6_nextTrial x1 b1 q
    have nte := nt_e x1 b1 (hsl x1 (J1.2.1 607 (by decide) (by decide) (by decide)) (J1.2.1 608 (by decide) (by decide) (by decide))) S4
    have hl1 : vl st P S < i + 1 → 0 ≤ vm1.toInt := fun q => by
      by_cases e : vl st P S = i
      · refine op1.1 (hso y Jy (vl_inj D.2 hst (hvl.trans e.symm)))
      · exact op1.2 (hl (by omega))
    have eX : iter (s_X6_choose_l38 b1) (m + 1) i (vx, x) = iter (s_X6_choose_l38 b1) m (i + 1) (vx1, s_X6_nextTrial x1 b1) := by
      show iter (s_X6_choose_l38 b1) m (i + 1) (s_X6_choose_l38 b1 i (vx, x)) = _
      rw [ex]
    have eM : iterR (s_X9_plan_l261_1 a1 a2 a3 a4) (1 + (m + 1)) i (more, vm, y) = iterR1 (s_X9_plan_l261_1 a1 a2 a3 a4) (1 + m) i (s_X9_plan_c389_1 vm1 (j, y3)) := by
      rw [show 1 + (m + 1) = (1 + m) + 1 by omega, ← em]
      rfl
    rw [eX, eM]
    have J3 : ∀ t : St, (∀ f : Nat, f ≠ 47 → t f = y1 f) → JB σm xR S vx1 (s_X6_nextTrial x1 b1) vm1 t := fun t ht => ⟨J1.1, fun f p q r => (fx3 f p).trans (J1.2.1 f p q r), fun f p q r s u v => (ht f u).trans (J1.2.2.1 f p q r s u v), fun z k hk => by
      rw [fx3 603 (by decide), ht 48 (by decide)]
      exact J1.2.2.2 z k hk⟩
    rcases N4 with ⟨j0, -⟩ | ⟨k, jk, kP, k0, x2, ex2, dx2⟩
    · have j0 : j = 0 := j0
      subst j0
      have ec : s_X9_plan_c389_1 vm1 (0, y3) = Sum.inr (0, vm1, y3) := by
        unfold s_X9_plan_c389_1
        try dsimp only
        rw [if_pos (by decide)]
      rw [ec]
      have full : i + 1 = P ^ S := by
        have := N1.2.2.2
        rw [vl1, Nat.sub_zero] at this
        rw [this]
        show (0 + 1) * P ^ S = P ^ S
        rw [Nat.zero_add, Nat.one_mul]
      have m0 : m = 0 := by omega
      exact ih (i + 1) vx1 vm1 0 (s_X6_nextTrial x1 b1) y3 (by omega) (J3 y3 N3) (fun q => by omega) (fun _ => rfl) hl1
    · have jk : j = k + 1 := jk
      subst jk
      have kP : (y3 47 k).toNatClampNeg + 1 < P := kP
      have k0 : 0 ≤ (y3 47 k).toInt := k0
      have ec : s_X9_plan_c389_1 vm1 (k + 1, y3) = Sum.inr (1, vm1, put y3 47 k (y3 47 k + 1)) := by
        unfold s_X9_plan_c389_1
        try dsimp only
        rw [nI_p (by omega), if_neg (nI_n0 (by omega)), nI_clamp (by omega)]
      rw [ec]
      have o1 : (1 : Int32).toInt = 1 := by decide
      have en : (y3 47 k + 1).toNatClampNeg = (y3 47 k).toNatClampNeg + 1 := by
        have := kP
        rw [tn_toInt] at this
        rw [tn_toInt, tn_toInt, add_ti (by rw [o1]; omega) (by rw [o1]; omega), o1]
        omega
      have vl2 : vl (put y3 47 k (y3 47 k + 1)) P S = i + 1 := by rw [cv_done N1 en, vl1]
      have ok2 : okT (put y3 47 k (y3 47 k + 1)) P S := fun q hq => by
        show 0 ≤ (upd (y3 47) k (y3 47 k + 1) q).toInt ∧ (upd (y3 47) k (y3 47 k + 1) q).toNatClampNeg < P
        by_cases e : q = k
        · rw [e, pk_us, en]
          refine ⟨?_, kP⟩
          rw [tn_toInt] at kP
          rw [add_ti (by rw [o1]; omega) (by rw [o1]; omega), o1]
          omega
        · rw [pk_un e]
          exact N1.2.1 q hq
      have lt2 := vl_lt ok2
      rw [vl2] at lt2
      have nx : s_X6_nextTrial x1 b1 = x2 := by rw [nte, ex2]; rfl
      exact ih (i + 1) vx1 vm1 1 (s_X6_nextTrial x1 b1) (put y3 47 k (y3 47 k + 1)) (by omega) (J3 _ (fun f q => (put_fr q).trans (N3 f q))) (fun _ => ⟨rfl, vl2, fun q hq => by rw [nx]; exact dx2 q hq, ok2⟩) (fun q => by omega) hl1
