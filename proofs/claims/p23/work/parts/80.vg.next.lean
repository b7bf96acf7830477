/-! turns: the next trial, open trials -/
theorem gdc_e {c : Nat → Prop} {L : Nat → Int32 → Option Int32} (hL : ∀ k v, (v = 0 → L k v = none) ∧ (¬ v = 0 → ∃ w, L k v = some w ∧ (¬ w = 0 ↔ c k))) : ∀ (n k : Nat) (v : Int32), ¬ iterC L n k v = 0 ↔ (¬ v = 0 ∧ ∀ s : Nat, k ≤ s → s < k + n → c s) := by
  intro n
  induction n with
  | zero =>
    intro k v
    exact ⟨fun h => ⟨h, fun s h1 h2 => by omega⟩, fun h => h.1⟩
  | succ n ih =>
    intro k v
    show ¬ iterC1 L n k v (L k v) = 0 ↔ _
    by_cases h1 : v = 0
    · rw [(hL k v).1 h1]
      exact ⟨fun h => absurd h1 h, fun h => absurd h1 h.1⟩
    · obtain ⟨w, e, hw⟩ := (hL k v).2 h1
      rw [e]
      show ¬ iterC L n (k + 1) w = 0 ↔ _
      rw [ih (k + 1) w]
      constructor
      · rintro ⟨q1, q2⟩
        refine ⟨h1, fun s a b => ?_⟩
        by_cases e2 : s = k
        · rw [e2]
          exact hw.mp q1
        · exact q2 s (by omega) (by omega)
      · rintro ⟨_, q2⟩
        exact ⟨hw.mpr (q2 k (by omega) (by omega)), fun s a b => q2 s (by omega) (by omega)⟩
/-- a trial is open: class -/
theorem io_eq {τ : St} {w A : Nat} (h7 : τ 607 0 = nI w) (h8 : τ 608 0 = nI A) (w2 : w ≤ 2) (A4 : A ≤ 4) (hT : ∀ k, k < w * A → 0 ≤ (τ 602 k).toInt ∧ (τ 602 k).toNatClampNeg < 6) : ¬ s_X6_isOpen τ = 0 ↔ ∀ s : Nat, s < A → ∀ k : Nat, k < w → bt (τ 601 s) (τ 602 (s * w + k)).toNatClampNeg = true := by
  have inn : ∀ s : Nat, s < A → ((∀ k : Nat, k < w → bt (τ 601 s) (τ 602 (s * w + k)).toNatClampNeg = true) → s_X6_isOpen_l2 τ s () = Sum.inr ()) ∧ ((¬ ∀ k : Nat, k < w → bt (τ 601 s) (τ 602 (s * w + k)).toNatClampNeg = true) → s_X6_isOpen_l2 τ s () = Sum.inl 0) := by
    intro s hs
    have sw : s * w < 1000 := by
      have : s * w ≤ 4 * 2 := Nat.mul_le_mul (by omega) w2
      omega
    have lim : ∀ k, k < w → s * w + k < w * A := fun k hk => by
      have : (s + 1) * w ≤ A * w := Nat.mul_le_mul_right w hs
      rw [Nat.succ_mul, Nat.mul_comm A] at this
      omega
    have key := gx_eq (σx := τ) (r := (0 : Int32)) (c := fun k => k < w → bt (τ 601 s) (τ 602 (s * w + k)).toNatClampNeg = true) (L := fun k (u : Unit) => if k < w then s_X6_isOpen_l12 τ s k u else Sum.inr ()) (fun k => by
      by_cases hk : k < w
      · have T := hT _ (lim k hk)
        have e : s_X6_isOpen_l12 τ s k () = if bt (τ 601 s) (τ 602 (s * w + k)).toNatClampNeg = true then Sum.inr () else Sum.inl 0 := by
          unfold s_X6_isOpen_l12
          try dsimp only
          rw [h7, nI_mu sw (by omega) (by omega), nI_ad (by omega), nI_clamp (by omega)]
          have en := nI_v T.1
          rw [en, tb_t _ (by omega), nI_clamp (by omega)]
          cases bt (τ 601 s) (τ 602 (s * w + k)).toNatClampNeg with
          | true => rfl
          | false => rfl
        refine ⟨fun h => ?_, fun h => ?_⟩
        · show (if k < w then s_X6_isOpen_l12 τ s k () else Sum.inr ()) = _
          rw [if_pos hk, e, if_pos (h hk)]
        · show (if k < w then s_X6_isOpen_l12 τ s k () else Sum.inr ()) = _
          rw [if_pos hk, e, if_neg (fun z => h (fun _ => z))]
      · exact ⟨fun _ => if_neg hk, fun h => absurd (fun z => absurd z hk) h⟩) w 0
    have same : iterR (fun k (u : Unit) => if k < w then s_X6_isOpen_l12 τ s k u else Sum.inr ()) w 0 () = iterR (s_X6_isOpen_l12 τ s) w 0 () := by
      have g : ∀ (m k : Nat), k + m = w → iterR (fun k (u : Unit) => if k < w then s_X6_isOpen_l12 τ s k u else Sum.inr ()) m k () = iterR (s_X6_isOpen_l12 τ s) m k () := by
        intro m
        induction m with
        | zero => intro k _; rfl
        | succ m ih =>
          intro k hk
          show iterR1 (fun k (u : Unit) => if k < w then s_X6_isOpen_l12 τ s k u else Sum.inr ()) m k (if k < w then s_X6_isOpen_l12 τ s k () else Sum.inr ()) = iterR1 (s_X6_isOpen_l12 τ s) m k (s_X6_isOpen_l12 τ s k ())
          rw [if_pos (show k < w by omega)]
          cases s_X6_isOpen_l12 τ s k () with
          | inl r => rfl
          | inr u => exact ih (k + 1) (by omega)
      exact g w 0 (Nat.zero_add w)
    rw [same] at key
    have e2 : s_X6_isOpen_l2 τ s () = s_X6_isOpen_c12r (iterR (s_X6_isOpen_l12 τ s) w 0 ()) := by
      unfold s_X6_isOpen_l2
      try dsimp only
      rw [h7, nI_clamp (by omega), Nat.sub_zero]
    refine ⟨fun h => ?_, fun h => ?_⟩
    · rw [e2, key.1 (fun k _ _ hk => h k hk)]
      rfl
    · rw [e2, key.2 (fun q => h (fun k hk => q k (Nat.zero_le k) (by omega) hk))]
      rfl
  have key := gx_eq (σx := τ) (r := (0 : Int32)) (c := fun s => s < A → ∀ k : Nat, k < w → bt (τ 601 s) (τ 602 (s * w + k)).toNatClampNeg = true) (L := fun s (u : Unit) => if s < A then s_X6_isOpen_l2 τ s u else Sum.inr ()) (fun s => by
    by_cases hs : s < A
    · refine ⟨fun h => ?_, fun h => ?_⟩
      · show (if s < A then s_X6_isOpen_l2 τ s () else Sum.inr ()) = _
        rw [if_pos hs]
        exact (inn s hs).1 (h hs)
      · show (if s < A then s_X6_isOpen_l2 τ s () else Sum.inr ()) = _
        rw [if_pos hs]
        exact (inn s hs).2 (fun z => h (fun _ => z))
    · exact ⟨fun _ => if_neg hs, fun h => absurd (fun z => absurd z hs) h⟩) A 0
  have same : iterR (fun s (u : Unit) => if s < A then s_X6_isOpen_l2 τ s u else Sum.inr ()) A 0 () = iterR (s_X6_isOpen_l2 τ) A 0 () := by
    have g : ∀ (m k : Nat), k + m = A → iterR (fun s (u : Unit) => if s < A then s_X6_isOpen_l2 τ s u else Sum.inr ()) m k () = iterR (s_X6_isOpen_l2 τ) m k () := by
      intro m
      induction m with
      | zero => intro k _; rfl
      | succ m ih =>
        intro k hk
        show iterR1 (fun s (u : Unit) => if s < A then s_X6_isOpen_l2 τ s u else Sum.inr ()) m k (if k < A then s_X6_isOpen_l2 τ k () else Sum.inr ()) = iterR1 (s_X6_isOpen_l2 τ) m k (s_X6_isOpen_l2 τ k ())
        rw [if_pos (show k < A by omega)]
        cases s_X6_isOpen_l2 τ k () with
        | inl r => rfl
        | inr u => exact ih (k + 1) (by omega)
    exact g A 0 (Nat.zero_add A)
  rw [same] at key
  have e : s_X6_isOpen τ = s_X6_isOpen_c2r (iterR (s_X6_isOpen_l2 τ) A 0 ()) := by
    unfold s_X6_isOpen
    rw [h8, nI_clamp (by omega), Nat.sub_zero]
  rw [e]
  constructor
  · intro h
    refine Classical.byContradiction (fun q => h ?_)
    rw [key.2 (fun z => q (fun s hs => z s (Nat.zero_le s) (by omega) hs))]
    rfl
  · intro h
    rw [key.1 (fun s _ _ hs => h s hs)]
    decide
/-- the next trial: class and reference -/
theorem nx_eq {a1 : Int32} {P SS : Nat} (hP : a1 = nI P) (P6 : P ≤ 6) (P0 : 0 < P) (S4 : SS ≤ 4) {L : Nat → St → Option St} (hL : ∀ k t, L k t = if t 47 k = t 2 0 - 1 then some (put t 47 k 0) else none) {y0 : St} : ∀ (S : Nat) (x y : St), S ≤ SS → y 2 0 = nI P → (∀ i, i < SS → x 602 i = y 47 i) → CV y0 y P SS S → CV y0 (iterDC L S y).2 P SS (iterDC L S y).1 ∧ (iterDC L S y).1 ≤ S ∧ (∀ f : Nat, f ≠ 47 → (iterDC L S y).2 f = y f) ∧ (((iterDC L S y).1 = 0 ∧ ∃ x2, iterDR (s_X6_nextTrial_l7 a1) S x = Sum.inr x2) ∨ (∃ k, (iterDC L S y).1 = k + 1 ∧ ((iterDC L S y).2 47 k).toNatClampNeg + 1 < P ∧ 0 ≤ ((iterDC L S y).2 47 k).toInt ∧ ∃ x2, iterDR (s_X6_nextTrial_l7 a1) S x = Sum.inl x2 ∧ ∀ i, i < SS → x2 602 i = put (iterDC L S y).2 47 k ((iterDC L S y).2 47 k + 1) 47 i)) := by
  intro S
  induction S with
  | zero =>
    intro x y _ _ _ hC
    exact ⟨hC, Nat.le_refl 0, fun _ _ => rfl, Or.inl ⟨rfl, x, rfl⟩⟩
  | succ S ih =>
    intro x y hS h2 hd hC
    have ok := hC.2.1 S (by omega)
    have o1 : (1 : Int32).toInt = 1 := by decide
    have dS : y 47 S = nI (y 47 S).toNatClampNeg := nI_v ok.1
    have c1 : (y 47 S = y 2 0 - 1) ↔ (y 47 S).toNatClampNeg + 1 = P := by
      rw [h2, ← Int32.toInt_inj, sub_ti (by rw [nI_toInt (by omega), o1]; omega) (by rw [nI_toInt (by omega), o1]; omega), nI_toInt (by omega), o1, tn_toInt]
      omega
    have ea : (y 47 S + 1).toInt = (y 47 S).toInt + 1 := by
      have := ok.2
      rw [tn_toInt] at this
      rw [add_ti (by rw [o1]; omega) (by rw [o1]; omega), o1]
    have c2 : (a1 ≤ y 47 S + 1) ↔ (y 47 S).toNatClampNeg + 1 = P := by
      have := ok.2
      rw [hP, Int32.le_iff_toInt_le, nI_toInt (by omega), ea, tn_toInt]
      rw [tn_toInt] at this
      omega
    have eM : iterDC L (S + 1) y = iterDC1 L S y (L S y) := rfl
    have eX : iterDR (s_X6_nextTrial_l7 a1) (S + 1) x = iterDR1 (s_X6_nextTrial_l7 a1) S (s_X6_nextTrial_l7 a1 S x) := rfl
    have x6 : x 602 S = y 47 S := hd S (by omega)
    have eL : s_X6_nextTrial_l7 a1 S x = if a1 ≤ y 47 S + 1 then Sum.inr (put (put x 602 S (y 47 S + 1)) 602 S 0) else Sum.inl (put x 602 S (y 47 S + 1)) := by
      unfold s_X6_nextTrial_l7
      try dsimp only
      rw [put_same, x6]
    rw [eM, eX, hL, eL]
    by_cases c : (y 47 S).toNatClampNeg + 1 = P
    · rw [if_pos (c1.mpr c), if_pos (c2.mpr c)]
      have nC := cv_next (p := y 2 0) (by rw [h2, nI_clamp (by omega)]) (by rw [h2, nI_toInt (by omega)]; omega) P0 hC (c1.mpr c)
      have r := ih (put (put x 602 S (y 47 S + 1)) 602 S 0) (put y 47 S 0) (by omega) (by rw [show put y 47 S 0 2 = y 2 from put_fr (by decide)]; exact h2) (fun i hi => by
        show upd (upd (x 602) S (y 47 S + 1)) S 0 i = upd (y 47) S 0 i
        by_cases e : i = S
        · rw [e, pk_us, pk_us]
        · rw [pk_un e, pk_un e, pk_un e]
          exact hd i hi) nC
      obtain ⟨r1, r2, r3, r4⟩ := r
      exact ⟨r1, Nat.le_succ_of_le r2, fun f q => (r3 f q).trans (put_fr q), r4⟩
    · rw [if_neg (fun z => c (c1.mp z)), if_neg (fun z => c (c2.mp z))]
      refine ⟨hC, Nat.le_refl _, fun _ _ => rfl, Or.inr ⟨S, rfl, ?_, ok.1, put x 602 S (y 47 S + 1), rfl, fun i hi => ?_⟩⟩
      · have := ok.2
        show (y 47 S).toNatClampNeg + 1 < P
        omega
      · show upd (x 602) S (y 47 S + 1) i = upd (y 47) S (y 47 S + 1) i
        by_cases e : i = S
        · rw [e, pk_us, pk_us]
        · rw [pk_un e, pk_un e]
          exact hd i hi
/-- trials are told by their numbers -/
theorem vl_inj {s t : St} {P : Nat} : ∀ {n : Nat}, okT s P n → okT t P n → vl s P n = vl t P n → ∀ i, i < n → s 47 i = t 47 i := by
  intro n
  induction n with
  | zero => intro _ _ _ i hi; exact absurd hi (Nat.not_lt_zero i)
  | succ n ih =>
    intro hs ht e i hi
    have a := hs n (by omega)
    have b := ht n (by omega)
    have e : vl s P n * P + (s 47 n).toNatClampNeg = vl t P n * P + (t 47 n).toNatClampNeg := e
    have P0 : 0 < P := by omega
    have e1 : (s 47 n).toNatClampNeg = (t 47 n).toNatClampNeg := by
      have := congrArg (· % P) e
      simp only [Nat.mul_add_mod_of_lt, a.2, b.2, Nat.mul_comm _ P] at this
      rw [Nat.mul_add_mod, Nat.mul_add_mod, Nat.mod_eq_of_lt a.2, Nat.mod_eq_of_lt b.2] at this
      exact this
    have e2 : vl s P n = vl t P n := by
      rw [e1] at e
      have : vl s P n * P = vl t P n * P := by omega
      exact Nat.eq_of_mul_eq_mul_right P0 this
    by_cases q : i = n
    · rw [q, nI_v a.1, nI_v b.1, e1]
    · exact ih (fun j hj => hs j (by omega)) (fun j hj => ht j (by omega)) e2 i (by omega)
