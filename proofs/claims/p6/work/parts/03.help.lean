theorem fa_lt (a b : Int32) : a < b ↔ a.toInt < b.toInt := Int32.lt_iff_toInt_lt
theorem fa_le (a b : Int32) : a ≤ b ↔ a.toInt ≤ b.toInt := Int32.le_iff_toInt_le
theorem fa_eq (a b : Int32) : a = b ↔ a.toInt = b.toInt := Int32.toInt_inj.symm
theorem sw_in {x : Int32} {n : Nat} (h : ¬ (x.toInt < 0 ∨ (n : Int) < x.toInt)) (hn : n + 1 < 2 ^ 31) : ∃ j : Nat, j < n + 1 ∧ x = nI j := by
  have h1 : vp_in x (n + 1) := vp_in_iff.mpr (by omega)
  exact vp_in_of h1 hn
theorem upd_z (k : Nat) : upd (fun _ => (0 : Int32)) k 0 = (fun _ => (0 : Int32)) := by
  funext j
  unfold upd
  split <;> rfl
theorem kk_same {D : va_G} {cl : List vw_C} {tys : List (ClassId × FieldType)} {s : State} {i j : Nat} {cA cB : ClassId} {ty : FieldType} (h : va_K D cl tys s) (hi : tys[i]? = some (cA, ty)) (hj : tys[j]? = some (cB, ty)) : cA = cB := by
  have a := (h.2 i _ hi).2
  have b := (h.2 j _ hj).2
  cases ty with
  | object C =>
    obtain ⟨_, _, _, _, _, f⟩ := a
    obtain ⟨_, _, _, _, _, g⟩ := b
    exact Option.some.inj (f.symm.trans g)
  | _ => exact Option.some.inj (Eq.trans (Eq.symm a) b)
theorem ti_m9 : ((-9) : Int32).toInt = -9 := by decide
theorem ti_m8 : ((-8) : Int32).toInt = -8 := by decide
theorem ti_m7 : ((-7) : Int32).toInt = -7 := by decide
theorem ti_m6 : ((-6) : Int32).toInt = -6 := by decide
theorem ti_m5 : ((-5) : Int32).toInt = -5 := by decide
theorem ti_m4 : ((-4) : Int32).toInt = -4 := by decide
theorem ti_m3 : ((-3) : Int32).toInt = -3 := by decide
theorem ti_m2 : ((-2) : Int32).toInt = -2 := by decide
theorem ti_m1 : ((-1) : Int32).toInt = -1 := by decide
theorem ti_0 : (0 : Int32).toInt = 0 := by decide
theorem ti_1 : (1 : Int32).toInt = 1 := by decide
theorem ti_2 : (2 : Int32).toInt = 2 := by decide
theorem ti_3 : (3 : Int32).toInt = 3 := by decide
theorem ti_4 : (4 : Int32).toInt = 4 := by decide
theorem ti_5 : (5 : Int32).toInt = 5 := by decide
theorem ti_6 : (6 : Int32).toInt = 6 := by decide
theorem ti_7 : (7 : Int32).toInt = 7 := by decide
theorem ti_8 : (8 : Int32).toInt = 8 := by decide
theorem ti_9 : (9 : Int32).toInt = 9 := by decide
theorem ti_10 : (10 : Int32).toInt = 10 := by decide
theorem ti_11 : (11 : Int32).toInt = 11 := by decide
theorem ti_12 : (12 : Int32).toInt = 12 := by decide
theorem ti_13 : (13 : Int32).toInt = 13 := by decide
theorem ti_14 : (14 : Int32).toInt = 14 := by decide
theorem ti_15 : (15 : Int32).toInt = 15 := by decide
theorem ti_16 : (16 : Int32).toInt = 16 := by decide
theorem ti_17 : (17 : Int32).toInt = 17 := by decide
theorem ti_18 : (18 : Int32).toInt = 18 := by decide
theorem ti_19 : (19 : Int32).toInt = 19 := by decide
theorem ti_20 : (20 : Int32).toInt = 20 := by decide
theorem ti_21 : (21 : Int32).toInt = 21 := by decide
theorem ti_30 : (30 : Int32).toInt = 30 := by decide
theorem ti_31 : (31 : Int32).toInt = 31 := by decide
theorem ti_32 : (32 : Int32).toInt = 32 := by decide
theorem ti_45 : (45 : Int32).toInt = 45 := by decide
theorem ti_60 : (60 : Int32).toInt = 60 := by decide
theorem ti_99 : (99 : Int32).toInt = 99 := by decide
theorem ti_100 : (100 : Int32).toInt = 100 := by decide
theorem ti_720 : (720 : Int32).toInt = 720 := by decide
theorem ti_740 : (740 : Int32).toInt = 740 := by decide
theorem ti_1000 : (1000 : Int32).toInt = 1000 := by decide
theorem ti_10000 : (10000 : Int32).toInt = 10000 := by decide
theorem ti_100000 : (100000 : Int32).toInt = 100000 := by decide
theorem ix_of {x : Int32} {n : Nat} (h : 0 ≤ x.toInt ∧ x.toInt < (nI n).toInt) (hn : n < 2 ^ 31) : ∃ k : Nat, k < n ∧ x = nI k := by
  rw [nI_toInt hn] at h
  exact vp_in_of (vp_in_iff.mpr h) hn
