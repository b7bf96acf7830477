/-- the reference's rights: a TIED one's house is there -/
def okWho (nr : Nat) (fk fw : Nat → Int32) : Prop := ∀ k : Nat, k < nr → fk k = 1 → ∃ j : Nat, j < 10 ∧ fw k = nI j

theorem okWho_set {nr : Nat} {fk fw : Nat → Int32} (h : okWho nr fk fw) {i : Nat} (hi : fk i ≠ 1) (x : Int32) : okWho nr fk (upd fw i x) := by
  intro k hk e
  by_cases hki : k = i
  · exact absurd (hki ▸ e) hi
  · rw [pk_un hki]
    exact h k hk e
theorem okWho_add {nr : Nat} {fk fw : Nat → Int32} (h : okWho nr fk fw) (x y : Int32) (hx : x = 1 → ∃ j : Nat, j < 10 ∧ y = nI j) : okWho (nr + 1) (upd fk nr x) (upd fw nr y) := by
  intro k hk e
  by_cases hki : k = nr
  · subst hki
    rw [pk_us] at e ⊢
    exact hx e
  · rw [pk_un hki] at e ⊢
    exact h k (by omega) e
/-- places of a row are numbers below m -/
def okI (n m : Nat) (f : Nat → Int32) : Prop := ∀ k : Nat, k < n → ∃ j : Nat, j < m ∧ f k = nI j
theorem okI_add {n m : Nat} {f : Nat → Int32} (h : okI n m f) {j : Nat} (hj : j < m) : okI (n + 1) m (upd f n (nI j)) := by
  intro k hk
  by_cases hki : k = n
  · subst hki
    exact ⟨j, hj, pk_us⟩
  · rw [pk_un hki]
    exact h k (by omega)
theorem okI_in {n m : Nat} {f : Nat → Int32} (h : okI n m f) {k : Nat} (hk : k < n) {v : Int32} (ev : v = f k) (hm : m < 2 ^ 31) : vp_in v m := by
  obtain ⟨j, hj, e⟩ := h k hk
  rw [ev, e]
  exact vp_in_nI hj hm

abbrev isW (a b : Int32) : Prop := 0 ≤ a.toInt ∧ a.toInt < 10 ∧ 0 ≤ b.toInt ∧ b.toInt < 10
theorem ix_a {a b : Int32} (h : isW a b) : vp_in (a * 10 + b) 100 := by
  obtain ⟨i, hi, rfl⟩ := vp_in_of (x := a) (n := 10) (vp_in_iff.mpr ⟨h.1, h.2.1⟩) (by decide)
  obtain ⟨j, hj, rfl⟩ := vp_in_of (x := b) (n := 10) (vp_in_iff.mpr ⟨h.2.2.1, h.2.2.2⟩) (by decide)
  have e : nI i * 10 + nI j = nI (i * 10 + j) := by rw [show (10 : Int32) = nI 10 from rfl, pk_mul, nI_add]
  rw [e]
  exact vp_in_nI (by omega) (by decide)
theorem ix_b {a b : Int32} (h : isW a b) : vp_in (10 * a + b) 100 := by
  obtain ⟨i, hi, rfl⟩ := vp_in_of (x := a) (n := 10) (vp_in_iff.mpr ⟨h.1, h.2.1⟩) (by decide)
  obtain ⟨j, hj, rfl⟩ := vp_in_of (x := b) (n := 10) (vp_in_iff.mpr ⟨h.2.2.1, h.2.2.2⟩) (by decide)
  have e : 10 * nI i + nI j = nI (10 * i + j) := by rw [show (10 : Int32) = nI 10 from rfl, pk_mul, nI_add]
  rw [e]
  exact vp_in_nI (by omega) (by decide)
theorem sub_ti {a b : Int32} (h1 : -2147483648 ≤ a.toInt - b.toInt) (h2 : a.toInt - b.toInt < 2147483648) : (a - b).toInt = a.toInt - b.toInt := by
  rw [Int32.toInt_sub, Int.bmod_def]
  split <;> omega
theorem ix_c {x : Int32} (h1 : 11 ≤ x.toInt) (h2 : x.toInt ≤ 16) : vp_in (x - 10) 7 := by
  rw [vp_in_iff, sub_ti (by rw [show (10 : Int32).toInt = 10 from by decide]; omega) (by rw [show (10 : Int32).toInt = 10 from by decide]; omega), show (10 : Int32).toInt = 10 from by decide]
  omega

/-- digits: rain, warmth -/
def okD (n : Nat) (f : Nat → Int32) : Prop := ∀ k : Nat, k < n → 0 ≤ (f k).toInt ∧ (f k).toInt < 10
theorem okD_set {n i : Nat} {f : Nat → Int32} {x : Int32} (h : okD n f) (hx : 0 ≤ x.toInt ∧ x.toInt < 10) : okD n (upd f i x) := by
  intro k hk
  by_cases hki : k = i
  · subst hki
    rw [pk_us]
    exact hx
  · rw [pk_un hki]
    exact h k hk
/-- how many beasts -/
def okM (n : Nat) (f : Nat → Int32) : Prop := ∀ k : Nat, k < n → 1 ≤ (f k).toInt ∧ (f k).toInt ≤ 100
theorem okM_add {n : Nat} {f : Nat → Int32} {x : Int32} (h : okM n f) (hx : 1 ≤ x.toInt ∧ x.toInt ≤ 100) : okM (n + 1) (upd f n x) := by
  intro k hk
  by_cases hki : k = n
  · subst hki
    rw [pk_us]
    exact hx
  · rw [pk_un hki]
    exact h k (by omega)
/-- grass and what a piece bears at most -/
def okG (n : Nat) (g f : Nat → Int32) : Prop := ∀ k : Nat, k < n → 0 ≤ (g k).toInt ∧ (g k).toInt ≤ (f k).toInt ∧ (f k).toInt ≤ 100000
theorem okG_add {n : Nat} {g f : Nat → Int32} {x y : Int32} (h : okG n g f) (hx : 0 ≤ x.toInt ∧ x.toInt ≤ y.toInt ∧ y.toInt ≤ 100000) : okG (n + 1) (upd g n x) (upd f n y) := by
  intro k hk
  by_cases hki : k = n
  · subst hki
    rw [pk_us, pk_us]
    exact hx
  · rw [pk_un hki, pk_un hki]
    exact h k (by omega)

theorem okG_set {n i : Nat} {g f : Nat → Int32} {x : Int32} (h : okG n g f) (hx : 0 ≤ x.toInt ∧ x.toInt ≤ (f i).toInt) : okG n (upd g i x) f := by
  intro k hk
  by_cases hki : k = i
  · subst hki
    rw [pk_us]
    exact ⟨hx.1, hx.2, (h k hk).2.2⟩
  · rw [pk_un hki]
    exact h k hk
theorem cut_ok {g m d : Int32} (h0 : 0 ≤ g.toInt) (h1 : g.toInt ≤ 100000) (hd : d = g - 100) (hm : m = if 0 < d then d else 0) : 0 ≤ (g - m).toInt ∧ (g - m).toInt ≤ g.toInt := by
  have e100 : (100 : Int32).toInt = 100 := by decide
  have e0 : (0 : Int32).toInt = 0 := by decide
  have ed : d.toInt = g.toInt - 100 := by rw [hd, sub_ti (by rw [e100]; omega) (by rw [e100]; omega), e100]
  rw [hm]
  split
  · rename_i hlt
    rw [fa_lt, e0] at hlt
    rw [sub_ti (by omega) (by omega)]
    omega
  · rw [sub_ti (by rw [e0]; omega) (by rw [e0]; omega), e0]
    omega
