theorem tw_l {X Y : va_W} {k : Nat} {q : Nat × va_E} (h : X[k]? = some q) : (X ++ Y)[k]? = some q := by
  rw [List.getElem?_append_left (List.getElem?_eq_some_iff.mp h).1]
  exact h
theorem tw_r {X Y : va_W} {k : Nat} {q : Nat × va_E} (h : Y[k]? = some q) : (X ++ Y)[X.length + k]? = some q := by
  rw [List.getElem?_append_right (Nat.le_add_right _ _), Nat.add_sub_cancel_left]
  exact h
section TW
variable {D : va_G} {ca : Nat → ClassId} {A : Nat → Prop} {X Y X' Y' : va_W} {H H1 H0 : Heap} {t : State} {locs : List Loc}
theorem tw_pl (hP : va_P D vwCl (X ++ Y) H) : va_P D vwCl X H := fun k q hk => hP k q (tw_l hk)
theorem tw_pr (hP : va_P D vwCl (X ++ Y) H) : va_P D vwCl Y H := fun k q hk => hP (X.length + k) q (tw_r hk)
theorem tw_dl (hD : va_D A (X ++ Y)) : va_D A X := ⟨fun i j p q hi hj e => hD.1 i j p q (tw_l hi) (tw_l hj) e, fun k q hk => hD.2 k q (tw_l hk)⟩
theorem tw_dr (hD : va_D A (X ++ Y)) : va_D A Y := ⟨fun i j p q hi hj e => Nat.add_left_cancel (hD.1 (X.length + i) (X.length + j) p q (tw_r hi) (tw_r hj) e), fun k q hk => hD.2 (X.length + k) q (tw_r hk)⟩
/-- what lies in the one lies not in the other -/
theorem tw_nl (hP : va_P D vwCl (X ++ Y) H) (hD : va_D A (X ++ Y)) {k : Nat} {q : Nat × va_E} (hk : Y[k]? = some q) : ¬ va_A X H.size q.1 := by
  intro h
  rcases h with ⟨j, e, h⟩ | h
  · have hj : j < X.length := (List.getElem?_eq_some_iff.mp h).1
    have := hD.1 j (X.length + k) (q.1, e) q (tw_l h) (tw_r hk) rfl
    omega
  · have := (tw_pr hP k q hk).lt
    omega
theorem tw_nr (hP : va_P D vwCl (X ++ Y) H) (hD : va_D A (X ++ Y)) {k : Nat} {q : Nat × va_E} (hk : X[k]? = some q) : ¬ va_A Y H.size q.1 := by
  intro h
  rcases h with ⟨j, e, h⟩ | h
  · have hj : k < X.length := (List.getElem?_eq_some_iff.mp hk).1
    have := hD.1 (X.length + j) k (q.1, e) q (tw_r h) (tw_l hk) rfl
    omega
  · have := (tw_pl hP k q hk).lt
    omega
theorem tw_fl (hD : va_D A (X ++ Y)) (hS : va_S A H0 H locs) (hA : ∀ q, H0.size ≤ q → A q) : ∀ q, va_A X H.size q → A q := pw_free (tw_dl hD) hS hA
theorem tw_fr (hD : va_D A (X ++ Y)) (hS : va_S A H0 H locs) (hA : ∀ q, H0.size ≤ q → A q) : ∀ q, va_A Y H.size q → A q := pw_free (tw_dr hD) hS hA
theorem tw_L (hP : va_P D vwCl (X ++ Y) H) (hD : va_D A (X ++ Y)) (hF : ∀ q, va_A X H.size q → A q) (hk1 : ∀ q : Nat, q < H.size → ¬ va_A X H.size q → H1[q]? = H[q]?) (ht : t.heap = H1) (hB : pw_post D ca X H.size X' t) : va_P D vwCl (X' ++ Y) H1 ∧ va_D A (X' ++ Y) := by
  have hB1 : va_P D vwCl X' H1 := ht ▸ hB.1
  refine ⟨va_P.app hB1 ((tw_pr hP).kept (fun i x hx => hk1 x.1 ((tw_pr hP i x hx).lt) (tw_nl hP hD hx))), va_D.app ⟨hB.2.2.1, fun k q hk => hF _ (hB.2.2.2 k q hk)⟩ (tw_dr hD) (fun i j x y hx hy e => ?_)⟩
  exact absurd (e ▸ hB.2.2.2 i x hx) (tw_nl hP hD hy)
theorem tw_R (hP : va_P D vwCl (X ++ Y) H) (hD : va_D A (X ++ Y)) (hF : ∀ q, va_A Y H.size q → A q) (hk1 : ∀ q : Nat, q < H.size → ¬ va_A Y H.size q → H1[q]? = H[q]?) (ht : t.heap = H1) (hB : pw_post D ca Y H.size Y' t) : va_P D vwCl (X ++ Y') H1 ∧ va_D A (X ++ Y') := by
  have hB1 : va_P D vwCl Y' H1 := ht ▸ hB.1
  refine ⟨va_P.app ((tw_pl hP).kept (fun i x hx => hk1 x.1 ((tw_pl hP i x hx).lt) (tw_nr hP hD hx))) hB1, va_D.app (tw_dl hD) ⟨hB.2.2.1, fun k q hk => hF _ (hB.2.2.2 k q hk)⟩ (fun i j x y hx hy e => ?_)⟩
  exact absurd (e ▸ hB.2.2.2 j y hy) (tw_nr hP hD hx)
end TW

