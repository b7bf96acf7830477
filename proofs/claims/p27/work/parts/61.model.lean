def s_X9_plan_c261  : (Int32 × Int32 × St) → Int32 × St := fun x9 => match x9 with
  | (v9_24, v8_24, τ_24) => ((0 : Int32), τ_24)
def s_X9_plan_c261r  : Sum (Int32 × St) (Int32 × Int32 × St) → Int32 × St := fun x9 => match x9 with
  | .inl r => r
  | .inr s => s_X9_plan_c261 s
def s_X9_plan_c389 (v8_28 : Int32) : (Nat × St) → Sum (Int32 × St) (Int32 × Int32 × St) := fun x9 => match x9 with
  | (j_29, τ_29) => (if (nI j_29 - (1 : Int32)) < (0 : Int32) then (Sum.inr ((0 : Int32), v8_28, τ_29)) else (Sum.inr ((1 : Int32), v8_28, (put τ_29 47 ((nI j_29 - (1 : Int32)).toNatClampNeg) ((τ_29 47 ((nI j_29 - (1 : Int32)).toNatClampNeg)) + (1 : Int32))))))
def s_X9_plan_l389  (k_29 : Nat) : St → Option St := fun x9 => match x9 with
  | τ_29 => (if (τ_29 47 k_29) = ((τ_29 2 0) - (1 : Int32)) then (some (put τ_29 47 k_29 (0 : Int32))) else none)
def s_X9_plan_j383 (a3 : Int32) (v8_28 : Int32) (τ_28 : St) : Sum (Int32 × St) (Int32 × Int32 × St) := (s_X9_plan_c389 v8_28 (iterDC s_X9_plan_l389 ((1 : Int32) * a3).toNatClampNeg τ_28))
def s_X9_plan_c356 (a3 : Int32) (y0_27 : Int32) : St → Sum (Int32 × St) (Int32 × Int32 × St) := fun x9 => match x9 with
  | τ_36 => (s_X9_plan_j383 a3 y0_27 τ_36)
def s_X9_plan_l356  (k_36 : Nat) : St → St := fun x9 => match x9 with
  | τ_36 => (put τ_36 48 k_36 (τ_36 47 k_36))
def s_X9_plan_c356_1 (a3 : Int32) (y0_27 : Int32) : St → Sum (Int32 × St) (Int32 × Int32 × St) := fun x9 => match x9 with
  | τ_40 => (s_X9_plan_j383 a3 y0_27 τ_40)
def s_X9_plan_l356_1  (k_40 : Nat) : St → St := fun x9 => match x9 with
  | τ_40 => (put τ_40 48 k_40 (τ_40 47 k_40))
def s_X9_plan_j330 (a3 : Int32) (v8_24 : Int32) (v10_26 : Int32) (y0_27 : Int32) (τ_27 : St) : Sum (Int32 × St) (Int32 × Int32 × St) := (if v10_26 = (0 : Int32) then (s_X9_plan_j383 a3 v8_24 τ_27) else (if v8_24 < (0 : Int32) then (s_X9_plan_c356 a3 y0_27 (iter s_X9_plan_l356 (((1 : Int32) * a3).toNatClampNeg - 0) 0 τ_27)) else (if v8_24 ≤ y0_27 then (s_X9_plan_j383 a3 v8_24 τ_27) else (s_X9_plan_c356_1 a3 y0_27 (iter s_X9_plan_l356_1 (((1 : Int32) * a3).toNatClampNeg - 0) 0 τ_27)))))
def s_X9_plan_c272 (a1 : Int32) (a2 : Int32) (a3 : Int32) (a4 : Int32) (v8_24 : Int32) (τ_24 : St) : Int32 → Sum (Int32 × St) (Int32 × Int32 × St) := fun x9 => match x9 with
  | v10_26 => (if v10_26 = (0 : Int32) then (s_X9_plan_j330 a3 v8_24 v10_26 (-1 : Int32) τ_24) else (s_X9_plan_j330 a3 v8_24 v10_26 ((s_X9_tries τ_24 a1 a2 (1 : Int32) a3 a4).1) ((s_X9_tries τ_24 a1 a2 (1 : Int32) a3 a4).2)))
def s_X9_plan_l272 (a4 : Int32) (τ_24 : St) (k_26 : Nat) : Int32 → Option Int32 := fun x9 => match x9 with
  | v10_26 => (if v10_26 = (0 : Int32) then none else (some (s_X9_mayTake τ_24 ((nI k_26) / (1 : Int32)) (τ_24 47 k_26) a4)))
def s_X9_plan_l261 (a1 : Int32) (a2 : Int32) (a3 : Int32) (a4 : Int32) (k_24 : Nat) : (Int32 × Int32 × St) → Sum (Int32 × St) (Int32 × Int32 × St) := fun x9 => match x9 with
  | (v9_24, v8_24, τ_24) => (if v9_24 = (0 : Int32) then (Sum.inl (v8_24, (put (put τ_24 49 0 a3) 50 0 (1 : Int32)))) else (s_X9_plan_c272 a1 a2 a3 a4 v8_24 τ_24 (iterC (s_X9_plan_l272 a4 τ_24) (((1 : Int32) * a3).toNatClampNeg - 0) 0 (1 : Int32))))
def s_X9_plan_c237 (σ : St) (a1 : Int32) (a2 : Int32) (a3 : Int32) (a4 : Int32) : St → Int32 × St := fun x9 => match x9 with
  | τ_23 => (s_X9_plan_c261r (iterR (s_X9_plan_l261 a1 a2 a3 a4) (1 + (σ 2 0).toNatClampNeg ^ ((1 : Int32) * a3).toNatClampNeg) 0 ((1 : Int32), (-1 : Int32), τ_23)))
def s_X9_plan_l237  (k_23 : Nat) : St → St := fun x9 => match x9 with
  | τ_23 => (put τ_23 47 k_23 (0 : Int32))
def s_X9_plan_c124 (σ : St) (a1 : Int32) (a2 : Int32) (a3 : Int32) (a4 : Int32) : Int32 → Int32 × St := fun x9 => match x9 with
  | v6_20 => (if v6_20 = (0 : Int32) then (((s_X9_refuse σ (-3 : Int32)).1), (s_X9_refuse σ (-3 : Int32)).2) else (if ((σ 1 0) + (a3 * a4)) ≤ (720 : Int32) then (s_X9_plan_c237 σ a1 a2 a3 a4 (iter s_X9_plan_l237 (((1 : Int32) * a3).toNatClampNeg - 0) 0 σ)) else (((s_X9_refuse σ (-6 : Int32)).1), (s_X9_refuse σ (-6 : Int32)).2)))
def s_X9_plan_c141  : Int32 → Option Int32 := fun x9 => match x9 with
  | v8_59 => (some v8_59)
def s_X9_plan_l141 (σ : St) (a4 : Int32) (k_20 : Nat) (k_59 : Nat) : Int32 → Int32 := fun x9 => match x9 with
  | v8_59 => (if v8_59 = (0 : Int32) then (if (s_X9_mayTake σ (nI k_20) (nI k_59) a4) = (0 : Int32) then (0 : Int32) else (1 : Int32)) else (1 : Int32))
def s_X9_plan_l124 (σ : St) (a4 : Int32) (k_20 : Nat) : Int32 → Option Int32 := fun x9 => match x9 with
  | v6_20 => (if v6_20 = (0 : Int32) then none else (s_X9_plan_c141 (iter (s_X9_plan_l141 σ a4 k_20) ((σ 2 0).toNatClampNeg - 0) 0 (0 : Int32))))
def s_X9_plan_j119 (σ : St) (a1 : Int32) (a2 : Int32) (a3 : Int32) (a4 : Int32) (y0_19 : Int32) : Int32 × St := (s_X9_plan_c124 σ a1 a2 a3 a4 (iterC (s_X9_plan_l124 σ a4) (a3.toNatClampNeg - 0) 0 y0_19))
def s_X9_plan_c261_1  : (Int32 × Int32 × St) → Int32 × St := fun x9 => match x9 with
  | (v9_93, v8_93, τ_93) => ((0 : Int32), τ_93)
def s_X9_plan_c261r_1  : Sum (Int32 × St) (Int32 × Int32 × St) → Int32 × St := fun x9 => match x9 with
  | .inl r => r
  | .inr s => s_X9_plan_c261_1 s
def s_X9_plan_c389_1 (v8_97 : Int32) : (Nat × St) → Sum (Int32 × St) (Int32 × Int32 × St) := fun x9 => match x9 with
  | (j_98, τ_98) => (if (nI j_98 - (1 : Int32)) < (0 : Int32) then (Sum.inr ((0 : Int32), v8_97, τ_98)) else (Sum.inr ((1 : Int32), v8_97, (put τ_98 47 ((nI j_98 - (1 : Int32)).toNatClampNeg) ((τ_98 47 ((nI j_98 - (1 : Int32)).toNatClampNeg)) + (1 : Int32))))))
def s_X9_plan_l389_1  (k_98 : Nat) : St → Option St := fun x9 => match x9 with
  | τ_98 => (if (τ_98 47 k_98) = ((τ_98 2 0) - (1 : Int32)) then (some (put τ_98 47 k_98 (0 : Int32))) else none)
def s_X9_plan_j383_1 (a3 : Int32) (v8_97 : Int32) (τ_97 : St) : Sum (Int32 × St) (Int32 × Int32 × St) := (s_X9_plan_c389_1 v8_97 (iterDC s_X9_plan_l389_1 ((2 : Int32) * a3).toNatClampNeg τ_97))
def s_X9_plan_c356_2 (a3 : Int32) (y0_96 : Int32) : St → Sum (Int32 × St) (Int32 × Int32 × St) := fun x9 => match x9 with
  | τ_105 => (s_X9_plan_j383_1 a3 y0_96 τ_105)
def s_X9_plan_l356_2  (k_105 : Nat) : St → St := fun x9 => match x9 with
  | τ_105 => (put τ_105 48 k_105 (τ_105 47 k_105))
def s_X9_plan_c356_3 (a3 : Int32) (y0_96 : Int32) : St → Sum (Int32 × St) (Int32 × Int32 × St) := fun x9 => match x9 with
  | τ_109 => (s_X9_plan_j383_1 a3 y0_96 τ_109)
def s_X9_plan_l356_3  (k_109 : Nat) : St → St := fun x9 => match x9 with
  | τ_109 => (put τ_109 48 k_109 (τ_109 47 k_109))
def s_X9_plan_j330_1 (a3 : Int32) (v8_93 : Int32) (v10_95 : Int32) (y0_96 : Int32) (τ_96 : St) : Sum (Int32 × St) (Int32 × Int32 × St) := (if v10_95 = (0 : Int32) then (s_X9_plan_j383_1 a3 v8_93 τ_96) else (if v8_93 < (0 : Int32) then (s_X9_plan_c356_2 a3 y0_96 (iter s_X9_plan_l356_2 (((2 : Int32) * a3).toNatClampNeg - 0) 0 τ_96)) else (if v8_93 ≤ y0_96 then (s_X9_plan_j383_1 a3 v8_93 τ_96) else (s_X9_plan_c356_3 a3 y0_96 (iter s_X9_plan_l356_3 (((2 : Int32) * a3).toNatClampNeg - 0) 0 τ_96)))))
def s_X9_plan_c272_1 (a1 : Int32) (a2 : Int32) (a3 : Int32) (a4 : Int32) (v8_93 : Int32) (τ_93 : St) : Int32 → Sum (Int32 × St) (Int32 × Int32 × St) := fun x9 => match x9 with
  | v10_95 => (if v10_95 = (0 : Int32) then (s_X9_plan_j330_1 a3 v8_93 v10_95 (-1 : Int32) τ_93) else (s_X9_plan_j330_1 a3 v8_93 v10_95 ((s_X9_tries τ_93 a1 a2 (2 : Int32) a3 a4).1) ((s_X9_tries τ_93 a1 a2 (2 : Int32) a3 a4).2)))
def s_X9_plan_l272_1 (a4 : Int32) (τ_93 : St) (k_95 : Nat) : Int32 → Option Int32 := fun x9 => match x9 with
  | v10_95 => (if v10_95 = (0 : Int32) then none else (some (s_X9_mayTake τ_93 ((nI k_95) / (2 : Int32)) (τ_93 47 k_95) a4)))
def s_X9_plan_l261_1 (a1 : Int32) (a2 : Int32) (a3 : Int32) (a4 : Int32) (k_93 : Nat) : (Int32 × Int32 × St) → Sum (Int32 × St) (Int32 × Int32 × St) := fun x9 => match x9 with
  | (v9_93, v8_93, τ_93) => (if v9_93 = (0 : Int32) then (Sum.inl (v8_93, (put (put τ_93 49 0 a3) 50 0 (2 : Int32)))) else (s_X9_plan_c272_1 a1 a2 a3 a4 v8_93 τ_93 (iterC (s_X9_plan_l272_1 a4 τ_93) (((2 : Int32) * a3).toNatClampNeg - 0) 0 (1 : Int32))))
def s_X9_plan_c237_1 (σ : St) (a1 : Int32) (a2 : Int32) (a3 : Int32) (a4 : Int32) : St → Int32 × St := fun x9 => match x9 with
  | τ_92 => (s_X9_plan_c261r_1 (iterR (s_X9_plan_l261_1 a1 a2 a3 a4) (1 + (σ 2 0).toNatClampNeg ^ ((2 : Int32) * a3).toNatClampNeg) 0 ((1 : Int32), (-1 : Int32), τ_92)))
def s_X9_plan_l237_1  (k_92 : Nat) : St → St := fun x9 => match x9 with
  | τ_92 => (put τ_92 47 k_92 (0 : Int32))
def s_X9_plan_c124_1 (σ : St) (a1 : Int32) (a2 : Int32) (a3 : Int32) (a4 : Int32) : Int32 → Int32 × St := fun x9 => match x9 with
  | v6_89 => (if v6_89 = (0 : Int32) then (((s_X9_refuse σ (-3 : Int32)).1), (s_X9_refuse σ (-3 : Int32)).2) else (if ((σ 1 0) + (a3 * a4)) ≤ (720 : Int32) then (s_X9_plan_c237_1 σ a1 a2 a3 a4 (iter s_X9_plan_l237_1 (((2 : Int32) * a3).toNatClampNeg - 0) 0 σ)) else (((s_X9_refuse σ (-6 : Int32)).1), (s_X9_refuse σ (-6 : Int32)).2)))
def s_X9_plan_c141_1  : Int32 → Option Int32 := fun x9 => match x9 with
  | v8_128 => (some v8_128)
def s_X9_plan_l141_1 (σ : St) (a4 : Int32) (k_89 : Nat) (k_128 : Nat) : Int32 → Int32 := fun x9 => match x9 with
  | v8_128 => (if v8_128 = (0 : Int32) then (if (s_X9_mayTake σ (nI k_89) (nI k_128) a4) = (0 : Int32) then (0 : Int32) else (1 : Int32)) else (1 : Int32))
def s_X9_plan_l124_1 (σ : St) (a4 : Int32) (k_89 : Nat) : Int32 → Option Int32 := fun x9 => match x9 with
  | v6_89 => (if v6_89 = (0 : Int32) then none else (s_X9_plan_c141_1 (iter (s_X9_plan_l141_1 σ a4 k_89) ((σ 2 0).toNatClampNeg - 0) 0 (0 : Int32))))
def s_X9_plan_j119_1 (σ : St) (a1 : Int32) (a2 : Int32) (a3 : Int32) (a4 : Int32) (y0_88 : Int32) : Int32 × St := (s_X9_plan_c124_1 σ a1 a2 a3 a4 (iterC (s_X9_plan_l124_1 σ a4) (a3.toNatClampNeg - 0) 0 y0_88))
def s_X9_plan (σ : St) (a1 : Int32) (a2 : Int32) (a3 : Int32) (a4 : Int32) : Int32 × St := (if (s_X9_isIn a1 (σ 6 0)) = (0 : Int32) then (((s_X9_refuse σ (-1 : Int32)).1), (s_X9_refuse σ (-1 : Int32)).2) else (if a2 = (-1 : Int32) then (if a1 = a2 then (((s_X9_refuse σ (-1 : Int32)).1), (s_X9_refuse σ (-1 : Int32)).2) else (if a3 < (1 : Int32) then (((s_X9_refuse σ (-2 : Int32)).1), (s_X9_refuse σ (-2 : Int32)).2) else (if (4 : Int32) < a3 then (((s_X9_refuse σ (-2 : Int32)).1), (s_X9_refuse σ (-2 : Int32)).2) else (if a4 < (1 : Int32) then (((s_X9_refuse σ (-2 : Int32)).1), (s_X9_refuse σ (-2 : Int32)).2) else (if a4 ≤ (10 : Int32) then (if (σ 41 (a1.toNatClampNeg)) = (0 : Int32) then (s_X9_plan_j119 σ a1 a2 a3 a4 (1 : Int32)) else (s_X9_plan_j119 σ a1 a2 a3 a4 (0 : Int32))) else (((s_X9_refuse σ (-2 : Int32)).1), (s_X9_refuse σ (-2 : Int32)).2)))))) else (if (s_X9_isIn a2 (σ 6 0)) = (0 : Int32) then (((s_X9_refuse σ (-1 : Int32)).1), (s_X9_refuse σ (-1 : Int32)).2) else (if a1 = a2 then (((s_X9_refuse σ (-1 : Int32)).1), (s_X9_refuse σ (-1 : Int32)).2) else (if a3 < (1 : Int32) then (((s_X9_refuse σ (-2 : Int32)).1), (s_X9_refuse σ (-2 : Int32)).2) else (if (2 : Int32) < a3 then (((s_X9_refuse σ (-2 : Int32)).1), (s_X9_refuse σ (-2 : Int32)).2) else (if a4 < (1 : Int32) then (((s_X9_refuse σ (-2 : Int32)).1), (s_X9_refuse σ (-2 : Int32)).2) else (if a4 ≤ (10 : Int32) then (if (σ 41 (a1.toNatClampNeg)) = (0 : Int32) then (if (σ 41 (a2.toNatClampNeg)) = (0 : Int32) then (s_X9_plan_j119_1 σ a1 a2 a3 a4 (1 : Int32)) else (s_X9_plan_j119_1 σ a1 a2 a3 a4 (0 : Int32))) else (s_X9_plan_j119_1 σ a1 a2 a3 a4 (0 : Int32))) else (((s_X9_refuse σ (-2 : Int32)).1), (s_X9_refuse σ (-2 : Int32)).2)))))))))
theorem fr_s_X9_plan_c389 (v8_28 : Int32) (s : (Nat × St)) {f : Nat} (h0 : f ≠ 0) (h43 : f ≠ 43) (h44 : f ≠ 44) (h45 : f ≠ 45) (h46 : f ≠ 46) (h47 : f ≠ 47) (h48 : f ≠ 48) (h49 : f ≠ 49) (h50 : f ≠ 50) : Sum.elim (fun (r : (Int32 × St)) => r.2 f) (fun (t : (Int32 × Int32 × St)) => t.2.2 f) (s_X9_plan_c389 v8_28 s) = s.2 f := by
  obtain ⟨j_29, τ_29⟩ := s
  unfold s_X9_plan_c389
  all_goals ((try dsimp only) <;> ((repeat' split) <;> (try simp only [put_fr, ne_eq, not_false_eq_true, h0, h43, h44, h45, h46, h47, h48, h49, h50, fr_s_X9_refuse, fr_s_X9_tries, Sum.elim_inl, Sum.elim_inr])))
theorem fr_s_X9_plan_l389  (k_29 : Nat) (s : St) {f : Nat} (h0 : f ≠ 0) (h43 : f ≠ 43) (h44 : f ≠ 44) (h45 : f ≠ 45) (h46 : f ≠ 46) (h47 : f ≠ 47) (h48 : f ≠ 48) (h49 : f ≠ 49) (h50 : f ≠ 50) : ∀ t, s_X9_plan_l389 k_29 s = some t → t f = s f := by
  intro t h
  unfold s_X9_plan_l389 at h
  (try dsimp only at h)
  (repeat' split at h) <;> first | (cases h; done) | (obtain rfl := Option.some.inj h; simp only [put_fr, ne_eq, not_false_eq_true, h0, h43, h44, h45, h46, h47, h48, h49, h50, fr_s_X9_refuse, fr_s_X9_tries, fr_s_X9_plan_c389])
theorem fri_s_X9_plan_l389  (n : Nat) (s : St) {f : Nat} (h0 : f ≠ 0) (h43 : f ≠ 43) (h44 : f ≠ 44) (h45 : f ≠ 45) (h46 : f ≠ 46) (h47 : f ≠ 47) (h48 : f ≠ 48) (h49 : f ≠ 49) (h50 : f ≠ 50) : (iterDC s_X9_plan_l389 n s).2 f = s f := iterDC_fr (P := fun s : St => s f) (fun k s t h => fr_s_X9_plan_l389  k s h0 h43 h44 h45 h46 h47 h48 h49 h50 t h) n s
theorem fr_s_X9_plan_j383 (a3 : Int32) (v8_28 : Int32) (τ_28 : St) {f : Nat} (h0 : f ≠ 0) (h43 : f ≠ 43) (h44 : f ≠ 44) (h45 : f ≠ 45) (h46 : f ≠ 46) (h47 : f ≠ 47) (h48 : f ≠ 48) (h49 : f ≠ 49) (h50 : f ≠ 50) : Sum.elim (fun (r : (Int32 × St)) => r.2 f) (fun (t : (Int32 × Int32 × St)) => t.2.2 f) (s_X9_plan_j383 a3 v8_28 τ_28) = τ_28 f := by
  unfold s_X9_plan_j383
  all_goals ((try dsimp only) <;> ((repeat' split) <;> (try simp only [put_fr, ne_eq, not_false_eq_true, h0, h43, h44, h45, h46, h47, h48, h49, h50, fr_s_X9_refuse, fr_s_X9_tries, fr_s_X9_plan_c389, fri_s_X9_plan_l389, Sum.elim_inl, Sum.elim_inr])))
theorem fr_s_X9_plan_c356 (a3 : Int32) (y0_27 : Int32) (s : St) {f : Nat} (h0 : f ≠ 0) (h43 : f ≠ 43) (h44 : f ≠ 44) (h45 : f ≠ 45) (h46 : f ≠ 46) (h47 : f ≠ 47) (h48 : f ≠ 48) (h49 : f ≠ 49) (h50 : f ≠ 50) : Sum.elim (fun (r : (Int32 × St)) => r.2 f) (fun (t : (Int32 × Int32 × St)) => t.2.2 f) (s_X9_plan_c356 a3 y0_27 s) = s f := by
  unfold s_X9_plan_c356
  all_goals ((try dsimp only) <;> ((repeat' split) <;> (try simp only [put_fr, ne_eq, not_false_eq_true, h0, h43, h44, h45, h46, h47, h48, h49, h50, fr_s_X9_refuse, fr_s_X9_tries, fr_s_X9_plan_c389, fri_s_X9_plan_l389, fr_s_X9_plan_j383, Sum.elim_inl, Sum.elim_inr])))
theorem fr_s_X9_plan_l356  (k_36 : Nat) (s : St) {f : Nat} (h0 : f ≠ 0) (h43 : f ≠ 43) (h44 : f ≠ 44) (h45 : f ≠ 45) (h46 : f ≠ 46) (h47 : f ≠ 47) (h48 : f ≠ 48) (h49 : f ≠ 49) (h50 : f ≠ 50) : (s_X9_plan_l356 k_36 s) f = s f := by
  unfold s_X9_plan_l356
  all_goals ((try dsimp only) <;> ((repeat' split) <;> (try simp only [put_fr, ne_eq, not_false_eq_true, h0, h43, h44, h45, h46, h47, h48, h49, h50, fr_s_X9_refuse, fr_s_X9_tries, fr_s_X9_plan_c389, fri_s_X9_plan_l389, fr_s_X9_plan_j383, fr_s_X9_plan_c356])))
theorem fri_s_X9_plan_l356  (n k : Nat) (s : St) {f : Nat} (h0 : f ≠ 0) (h43 : f ≠ 43) (h44 : f ≠ 44) (h45 : f ≠ 45) (h46 : f ≠ 46) (h47 : f ≠ 47) (h48 : f ≠ 48) (h49 : f ≠ 49) (h50 : f ≠ 50) : (iter s_X9_plan_l356 n k s) f = s f := iter_fr (P := (fun s => s f)) (fun k s => fr_s_X9_plan_l356  k s h0 h43 h44 h45 h46 h47 h48 h49 h50) n k s
theorem fr_s_X9_plan_c356_1 (a3 : Int32) (y0_27 : Int32) (s : St) {f : Nat} (h0 : f ≠ 0) (h43 : f ≠ 43) (h44 : f ≠ 44) (h45 : f ≠ 45) (h46 : f ≠ 46) (h47 : f ≠ 47) (h48 : f ≠ 48) (h49 : f ≠ 49) (h50 : f ≠ 50) : Sum.elim (fun (r : (Int32 × St)) => r.2 f) (fun (t : (Int32 × Int32 × St)) => t.2.2 f) (s_X9_plan_c356_1 a3 y0_27 s) = s f := by
  unfold s_X9_plan_c356_1
  all_goals ((try dsimp only) <;> ((repeat' split) <;> (try simp only [put_fr, ne_eq, not_false_eq_true, h0, h43, h44, h45, h46, h47, h48, h49, h50, fr_s_X9_refuse, fr_s_X9_tries, fr_s_X9_plan_c389, fri_s_X9_plan_l389, fr_s_X9_plan_j383, fr_s_X9_plan_c356, fri_s_X9_plan_l356, Sum.elim_inl, Sum.elim_inr])))
theorem fr_s_X9_plan_l356_1  (k_40 : Nat) (s : St) {f : Nat} (h0 : f ≠ 0) (h43 : f ≠ 43) (h44 : f ≠ 44) (h45 : f ≠ 45) (h46 : f ≠ 46) (h47 : f ≠ 47) (h48 : f ≠ 48) (h49 : f ≠ 49) (h50 : f ≠ 50) : (s_X9_plan_l356_1 k_40 s) f = s f := by
  unfold s_X9_plan_l356_1
  all_goals ((try dsimp only) <;> ((repeat' split) <;> (try simp only [put_fr, ne_eq, not_false_eq_true, h0, h43, h44, h45, h46, h47, h48, h49, h50, fr_s_X9_refuse, fr_s_X9_tries, fr_s_X9_plan_c389, fri_s_X9_plan_l389, fr_s_X9_plan_j383, fr_s_X9_plan_c356, fri_s_X9_plan_l356, fr_s_X9_plan_c356_1])))
theorem fri_s_X9_plan_l356_1  (n k : Nat) (s : St) {f : Nat} (h0 : f ≠ 0) (h43 : f ≠ 43) (h44 : f ≠ 44) (h45 : f ≠ 45) (h46 : f ≠ 46) (h47 : f ≠ 47) (h48 : f ≠ 48) (h49 : f ≠ 49) (h50 : f ≠ 50) : (iter s_X9_plan_l356_1 n k s) f = s f := iter_fr (P := (fun s => s f)) (fun k s => fr_s_X9_plan_l356_1  k s h0 h43 h44 h45 h46 h47 h48 h49 h50) n k s
theorem fr_s_X9_plan_j330 (a3 : Int32) (v8_24 : Int32) (v10_26 : Int32) (y0_27 : Int32) (τ_27 : St) {f : Nat} (h0 : f ≠ 0) (h43 : f ≠ 43) (h44 : f ≠ 44) (h45 : f ≠ 45) (h46 : f ≠ 46) (h47 : f ≠ 47) (h48 : f ≠ 48) (h49 : f ≠ 49) (h50 : f ≠ 50) : Sum.elim (fun (r : (Int32 × St)) => r.2 f) (fun (t : (Int32 × Int32 × St)) => t.2.2 f) (s_X9_plan_j330 a3 v8_24 v10_26 y0_27 τ_27) = τ_27 f := by
  unfold s_X9_plan_j330
  all_goals ((try dsimp only) <;> ((repeat' split) <;> (try simp only [put_fr, ne_eq, not_false_eq_true, h0, h43, h44, h45, h46, h47, h48, h49, h50, fr_s_X9_refuse, fr_s_X9_tries, fr_s_X9_plan_c389, fri_s_X9_plan_l389, fr_s_X9_plan_j383, fr_s_X9_plan_c356, fri_s_X9_plan_l356, fr_s_X9_plan_c356_1, fri_s_X9_plan_l356_1, Sum.elim_inl, Sum.elim_inr])))
theorem fr_s_X9_plan_c272 (a1 : Int32) (a2 : Int32) (a3 : Int32) (a4 : Int32) (v8_24 : Int32) (τ_24 : St) (s : Int32) {f : Nat} (h0 : f ≠ 0) (h43 : f ≠ 43) (h44 : f ≠ 44) (h45 : f ≠ 45) (h46 : f ≠ 46) (h47 : f ≠ 47) (h48 : f ≠ 48) (h49 : f ≠ 49) (h50 : f ≠ 50) : Sum.elim (fun (r : (Int32 × St)) => r.2 f) (fun (t : (Int32 × Int32 × St)) => t.2.2 f) (s_X9_plan_c272 a1 a2 a3 a4 v8_24 τ_24 s) = τ_24 f := by
  unfold s_X9_plan_c272
  all_goals ((try dsimp only) <;> ((repeat' split) <;> (try simp only [put_fr, ne_eq, not_false_eq_true, h0, h43, h44, h45, h46, h47, h48, h49, h50, fr_s_X9_refuse, fr_s_X9_tries, fr_s_X9_plan_c389, fri_s_X9_plan_l389, fr_s_X9_plan_j383, fr_s_X9_plan_c356, fri_s_X9_plan_l356, fr_s_X9_plan_c356_1, fri_s_X9_plan_l356_1, fr_s_X9_plan_j330, Sum.elim_inl, Sum.elim_inr])))
theorem fr_s_X9_plan_l261 (a1 : Int32) (a2 : Int32) (a3 : Int32) (a4 : Int32) (k_24 : Nat) (s : (Int32 × Int32 × St)) {f : Nat} (h0 : f ≠ 0) (h43 : f ≠ 43) (h44 : f ≠ 44) (h45 : f ≠ 45) (h46 : f ≠ 46) (h47 : f ≠ 47) (h48 : f ≠ 48) (h49 : f ≠ 49) (h50 : f ≠ 50) : Sum.elim (fun (r : (Int32 × St)) => r.2 f) (fun (t : (Int32 × Int32 × St)) => t.2.2 f) (s_X9_plan_l261 a1 a2 a3 a4 k_24 s) = s.2.2 f := by
  obtain ⟨v9_24, v8_24, τ_24⟩ := s
  unfold s_X9_plan_l261
  all_goals ((try dsimp only) <;> ((repeat' split) <;> (try simp only [put_fr, ne_eq, not_false_eq_true, h0, h43, h44, h45, h46, h47, h48, h49, h50, fr_s_X9_refuse, fr_s_X9_tries, fr_s_X9_plan_c389, fri_s_X9_plan_l389, fr_s_X9_plan_j383, fr_s_X9_plan_c356, fri_s_X9_plan_l356, fr_s_X9_plan_c356_1, fri_s_X9_plan_l356_1, fr_s_X9_plan_j330, fr_s_X9_plan_c272, Sum.elim_inl, Sum.elim_inr])))
theorem fri_s_X9_plan_l261 (a1 : Int32) (a2 : Int32) (a3 : Int32) (a4 : Int32) (n k : Nat) (s : (Int32 × Int32 × St)) {f : Nat} (h0 : f ≠ 0) (h43 : f ≠ 43) (h44 : f ≠ 44) (h45 : f ≠ 45) (h46 : f ≠ 46) (h47 : f ≠ 47) (h48 : f ≠ 48) (h49 : f ≠ 49) (h50 : f ≠ 50) : Sum.elim (fun (r : (Int32 × St)) => r.2 f) (fun (s : (Int32 × Int32 × St)) => s.2.2 f) (iterR (s_X9_plan_l261 a1 a2 a3 a4) n k s) = s.2.2 f := iterR_fr (P := (fun (s : (Int32 × Int32 × St)) => s.2.2 f)) (Q := fun (r : (Int32 × St)) => r.2 f) (fun k s => fr_s_X9_plan_l261 a1 a2 a3 a4 k s h0 h43 h44 h45 h46 h47 h48 h49 h50) n k s
theorem fr_s_X9_plan_c261r  (x : Sum (Int32 × St) (Int32 × Int32 × St)) {f : Nat} : (s_X9_plan_c261r x).2 f = Sum.elim (fun (r : Int32 × St) => (r.2) f) (fun (t : (Int32 × Int32 × St)) => (t.2.2) f) x := by
  cases x <;> rfl
theorem fr_s_X9_plan_c237 (σ : St) (a1 : Int32) (a2 : Int32) (a3 : Int32) (a4 : Int32) (s : St) {f : Nat} (h0 : f ≠ 0) (h43 : f ≠ 43) (h44 : f ≠ 44) (h45 : f ≠ 45) (h46 : f ≠ 46) (h47 : f ≠ 47) (h48 : f ≠ 48) (h49 : f ≠ 49) (h50 : f ≠ 50) : (s_X9_plan_c237 σ a1 a2 a3 a4 s).2 f = s f := by
  unfold s_X9_plan_c237
  all_goals ((try dsimp only) <;> ((repeat' split) <;> (try simp only [put_fr, ne_eq, not_false_eq_true, h0, h43, h44, h45, h46, h47, h48, h49, h50, fr_s_X9_refuse, fr_s_X9_tries, fr_s_X9_plan_c389, fri_s_X9_plan_l389, fr_s_X9_plan_j383, fr_s_X9_plan_c356, fri_s_X9_plan_l356, fr_s_X9_plan_c356_1, fri_s_X9_plan_l356_1, fr_s_X9_plan_j330, fr_s_X9_plan_c272, fr_s_X9_plan_l261, fri_s_X9_plan_l261, fr_s_X9_plan_c261r])))
theorem fr_s_X9_plan_l237  (k_23 : Nat) (s : St) {f : Nat} (h0 : f ≠ 0) (h43 : f ≠ 43) (h44 : f ≠ 44) (h45 : f ≠ 45) (h46 : f ≠ 46) (h47 : f ≠ 47) (h48 : f ≠ 48) (h49 : f ≠ 49) (h50 : f ≠ 50) : (s_X9_plan_l237 k_23 s) f = s f := by
  unfold s_X9_plan_l237
  all_goals ((try dsimp only) <;> ((repeat' split) <;> (try simp only [put_fr, ne_eq, not_false_eq_true, h0, h43, h44, h45, h46, h47, h48, h49, h50, fr_s_X9_refuse, fr_s_X9_tries, fr_s_X9_plan_c389, fri_s_X9_plan_l389, fr_s_X9_plan_j383, fr_s_X9_plan_c356, fri_s_X9_plan_l356, fr_s_X9_plan_c356_1, fri_s_X9_plan_l356_1, fr_s_X9_plan_j330, fr_s_X9_plan_c272, fr_s_X9_plan_l261, fri_s_X9_plan_l261, fr_s_X9_plan_c261r, fr_s_X9_plan_c237])))
theorem fri_s_X9_plan_l237  (n k : Nat) (s : St) {f : Nat} (h0 : f ≠ 0) (h43 : f ≠ 43) (h44 : f ≠ 44) (h45 : f ≠ 45) (h46 : f ≠ 46) (h47 : f ≠ 47) (h48 : f ≠ 48) (h49 : f ≠ 49) (h50 : f ≠ 50) : (iter s_X9_plan_l237 n k s) f = s f := iter_fr (P := (fun s => s f)) (fun k s => fr_s_X9_plan_l237  k s h0 h43 h44 h45 h46 h47 h48 h49 h50) n k s
theorem fr_s_X9_plan_c124 (σ : St) (a1 : Int32) (a2 : Int32) (a3 : Int32) (a4 : Int32) (s : Int32) {f : Nat} (h0 : f ≠ 0) (h43 : f ≠ 43) (h44 : f ≠ 44) (h45 : f ≠ 45) (h46 : f ≠ 46) (h47 : f ≠ 47) (h48 : f ≠ 48) (h49 : f ≠ 49) (h50 : f ≠ 50) : (s_X9_plan_c124 σ a1 a2 a3 a4 s).2 f = σ f := by
  unfold s_X9_plan_c124
  all_goals ((try dsimp only) <;> ((repeat' split) <;> (try simp only [put_fr, ne_eq, not_false_eq_true, h0, h43, h44, h45, h46, h47, h48, h49, h50, fr_s_X9_refuse, fr_s_X9_tries, fr_s_X9_plan_c389, fri_s_X9_plan_l389, fr_s_X9_plan_j383, fr_s_X9_plan_c356, fri_s_X9_plan_l356, fr_s_X9_plan_c356_1, fri_s_X9_plan_l356_1, fr_s_X9_plan_j330, fr_s_X9_plan_c272, fr_s_X9_plan_l261, fri_s_X9_plan_l261, fr_s_X9_plan_c261r, fr_s_X9_plan_c237, fri_s_X9_plan_l237])))
theorem fr_s_X9_plan_j119 (σ : St) (a1 : Int32) (a2 : Int32) (a3 : Int32) (a4 : Int32) (y0_19 : Int32) {f : Nat} (h0 : f ≠ 0) (h43 : f ≠ 43) (h44 : f ≠ 44) (h45 : f ≠ 45) (h46 : f ≠ 46) (h47 : f ≠ 47) (h48 : f ≠ 48) (h49 : f ≠ 49) (h50 : f ≠ 50) : (s_X9_plan_j119 σ a1 a2 a3 a4 y0_19).2 f = σ f := by
  unfold s_X9_plan_j119
  all_goals ((try dsimp only) <;> ((repeat' split) <;> (try simp only [put_fr, ne_eq, not_false_eq_true, h0, h43, h44, h45, h46, h47, h48, h49, h50, fr_s_X9_refuse, fr_s_X9_tries, fr_s_X9_plan_c389, fri_s_X9_plan_l389, fr_s_X9_plan_j383, fr_s_X9_plan_c356, fri_s_X9_plan_l356, fr_s_X9_plan_c356_1, fri_s_X9_plan_l356_1, fr_s_X9_plan_j330, fr_s_X9_plan_c272, fr_s_X9_plan_l261, fri_s_X9_plan_l261, fr_s_X9_plan_c261r, fr_s_X9_plan_c237, fri_s_X9_plan_l237, fr_s_X9_plan_c124])))
theorem fr_s_X9_plan_c389_1 (v8_97 : Int32) (s : (Nat × St)) {f : Nat} (h0 : f ≠ 0) (h43 : f ≠ 43) (h44 : f ≠ 44) (h45 : f ≠ 45) (h46 : f ≠ 46) (h47 : f ≠ 47) (h48 : f ≠ 48) (h49 : f ≠ 49) (h50 : f ≠ 50) : Sum.elim (fun (r : (Int32 × St)) => r.2 f) (fun (t : (Int32 × Int32 × St)) => t.2.2 f) (s_X9_plan_c389_1 v8_97 s) = s.2 f := by
  obtain ⟨j_98, τ_98⟩ := s
  unfold s_X9_plan_c389_1
  all_goals ((try dsimp only) <;> ((repeat' split) <;> (try simp only [put_fr, ne_eq, not_false_eq_true, h0, h43, h44, h45, h46, h47, h48, h49, h50, fr_s_X9_refuse, fr_s_X9_tries, fr_s_X9_plan_c389, fri_s_X9_plan_l389, fr_s_X9_plan_j383, fr_s_X9_plan_c356, fri_s_X9_plan_l356, fr_s_X9_plan_c356_1, fri_s_X9_plan_l356_1, fr_s_X9_plan_j330, fr_s_X9_plan_c272, fr_s_X9_plan_l261, fri_s_X9_plan_l261, fr_s_X9_plan_c261r, fr_s_X9_plan_c237, fri_s_X9_plan_l237, fr_s_X9_plan_c124, fr_s_X9_plan_j119, Sum.elim_inl, Sum.elim_inr])))
theorem fr_s_X9_plan_l389_1  (k_98 : Nat) (s : St) {f : Nat} (h0 : f ≠ 0) (h43 : f ≠ 43) (h44 : f ≠ 44) (h45 : f ≠ 45) (h46 : f ≠ 46) (h47 : f ≠ 47) (h48 : f ≠ 48) (h49 : f ≠ 49) (h50 : f ≠ 50) : ∀ t, s_X9_plan_l389_1 k_98 s = some t → t f = s f := by
  intro t h
  unfold s_X9_plan_l389_1 at h
  (try dsimp only at h)
  (repeat' split at h) <;> first | (cases h; done) | exact fr_s_X9_plan_l389 _ _ h0 h43 h44 h45 h46 h47 h48 h49 h50 t h | (obtain rfl := Option.some.inj h; simp only [put_fr, ne_eq, not_false_eq_true, h0, h43, h44, h45, h46, h47, h48, h49, h50, fr_s_X9_refuse, fr_s_X9_tries, fr_s_X9_plan_c389, fri_s_X9_plan_l389, fr_s_X9_plan_j383, fr_s_X9_plan_c356, fri_s_X9_plan_l356, fr_s_X9_plan_c356_1, fri_s_X9_plan_l356_1, fr_s_X9_plan_j330, fr_s_X9_plan_c272, fr_s_X9_plan_l261, fri_s_X9_plan_l261, fr_s_X9_plan_c261r, fr_s_X9_plan_c237, fri_s_X9_plan_l237, fr_s_X9_plan_c124, fr_s_X9_plan_j119, fr_s_X9_plan_c389_1])
theorem fri_s_X9_plan_l389_1  (n : Nat) (s : St) {f : Nat} (h0 : f ≠ 0) (h43 : f ≠ 43) (h44 : f ≠ 44) (h45 : f ≠ 45) (h46 : f ≠ 46) (h47 : f ≠ 47) (h48 : f ≠ 48) (h49 : f ≠ 49) (h50 : f ≠ 50) : (iterDC s_X9_plan_l389_1 n s).2 f = s f := iterDC_fr (P := fun s : St => s f) (fun k s t h => fr_s_X9_plan_l389_1  k s h0 h43 h44 h45 h46 h47 h48 h49 h50 t h) n s
theorem fr_s_X9_plan_j383_1 (a3 : Int32) (v8_97 : Int32) (τ_97 : St) {f : Nat} (h0 : f ≠ 0) (h43 : f ≠ 43) (h44 : f ≠ 44) (h45 : f ≠ 45) (h46 : f ≠ 46) (h47 : f ≠ 47) (h48 : f ≠ 48) (h49 : f ≠ 49) (h50 : f ≠ 50) : Sum.elim (fun (r : (Int32 × St)) => r.2 f) (fun (t : (Int32 × Int32 × St)) => t.2.2 f) (s_X9_plan_j383_1 a3 v8_97 τ_97) = τ_97 f := by
  unfold s_X9_plan_j383_1
  all_goals ((try dsimp only) <;> ((repeat' split) <;> (try simp only [put_fr, ne_eq, not_false_eq_true, h0, h43, h44, h45, h46, h47, h48, h49, h50, fr_s_X9_refuse, fr_s_X9_tries, fr_s_X9_plan_c389, fri_s_X9_plan_l389, fr_s_X9_plan_j383, fr_s_X9_plan_c356, fri_s_X9_plan_l356, fr_s_X9_plan_c356_1, fri_s_X9_plan_l356_1, fr_s_X9_plan_j330, fr_s_X9_plan_c272, fr_s_X9_plan_l261, fri_s_X9_plan_l261, fr_s_X9_plan_c261r, fr_s_X9_plan_c237, fri_s_X9_plan_l237, fr_s_X9_plan_c124, fr_s_X9_plan_j119, fr_s_X9_plan_c389_1, fri_s_X9_plan_l389_1, Sum.elim_inl, Sum.elim_inr])))
theorem fr_s_X9_plan_c356_2 (a3 : Int32) (y0_96 : Int32) (s : St) {f : Nat} (h0 : f ≠ 0) (h43 : f ≠ 43) (h44 : f ≠ 44) (h45 : f ≠ 45) (h46 : f ≠ 46) (h47 : f ≠ 47) (h48 : f ≠ 48) (h49 : f ≠ 49) (h50 : f ≠ 50) : Sum.elim (fun (r : (Int32 × St)) => r.2 f) (fun (t : (Int32 × Int32 × St)) => t.2.2 f) (s_X9_plan_c356_2 a3 y0_96 s) = s f := by
  unfold s_X9_plan_c356_2
  all_goals ((try dsimp only) <;> ((repeat' split) <;> (try simp only [put_fr, ne_eq, not_false_eq_true, h0, h43, h44, h45, h46, h47, h48, h49, h50, fr_s_X9_refuse, fr_s_X9_tries, fr_s_X9_plan_c389, fri_s_X9_plan_l389, fr_s_X9_plan_j383, fr_s_X9_plan_c356, fri_s_X9_plan_l356, fr_s_X9_plan_c356_1, fri_s_X9_plan_l356_1, fr_s_X9_plan_j330, fr_s_X9_plan_c272, fr_s_X9_plan_l261, fri_s_X9_plan_l261, fr_s_X9_plan_c261r, fr_s_X9_plan_c237, fri_s_X9_plan_l237, fr_s_X9_plan_c124, fr_s_X9_plan_j119, fr_s_X9_plan_c389_1, fri_s_X9_plan_l389_1, fr_s_X9_plan_j383_1, Sum.elim_inl, Sum.elim_inr])))
theorem fr_s_X9_plan_l356_2  (k_105 : Nat) (s : St) {f : Nat} (h0 : f ≠ 0) (h43 : f ≠ 43) (h44 : f ≠ 44) (h45 : f ≠ 45) (h46 : f ≠ 46) (h47 : f ≠ 47) (h48 : f ≠ 48) (h49 : f ≠ 49) (h50 : f ≠ 50) : (s_X9_plan_l356_2 k_105 s) f = s f := by
  unfold s_X9_plan_l356_2
  all_goals ((try dsimp only) <;> ((repeat' split) <;> (try simp only [put_fr, ne_eq, not_false_eq_true, h0, h43, h44, h45, h46, h47, h48, h49, h50, fr_s_X9_refuse, fr_s_X9_tries, fr_s_X9_plan_c389, fri_s_X9_plan_l389, fr_s_X9_plan_j383, fr_s_X9_plan_c356, fri_s_X9_plan_l356, fr_s_X9_plan_c356_1, fri_s_X9_plan_l356_1, fr_s_X9_plan_j330, fr_s_X9_plan_c272, fr_s_X9_plan_l261, fri_s_X9_plan_l261, fr_s_X9_plan_c261r, fr_s_X9_plan_c237, fri_s_X9_plan_l237, fr_s_X9_plan_c124, fr_s_X9_plan_j119, fr_s_X9_plan_c389_1, fri_s_X9_plan_l389_1, fr_s_X9_plan_j383_1, fr_s_X9_plan_c356_2])))
theorem fri_s_X9_plan_l356_2  (n k : Nat) (s : St) {f : Nat} (h0 : f ≠ 0) (h43 : f ≠ 43) (h44 : f ≠ 44) (h45 : f ≠ 45) (h46 : f ≠ 46) (h47 : f ≠ 47) (h48 : f ≠ 48) (h49 : f ≠ 49) (h50 : f ≠ 50) : (iter s_X9_plan_l356_2 n k s) f = s f := iter_fr (P := (fun s => s f)) (fun k s => fr_s_X9_plan_l356_2  k s h0 h43 h44 h45 h46 h47 h48 h49 h50) n k s
theorem fr_s_X9_plan_c356_3 (a3 : Int32) (y0_96 : Int32) (s : St) {f : Nat} (h0 : f ≠ 0) (h43 : f ≠ 43) (h44 : f ≠ 44) (h45 : f ≠ 45) (h46 : f ≠ 46) (h47 : f ≠ 47) (h48 : f ≠ 48) (h49 : f ≠ 49) (h50 : f ≠ 50) : Sum.elim (fun (r : (Int32 × St)) => r.2 f) (fun (t : (Int32 × Int32 × St)) => t.2.2 f) (s_X9_plan_c356_3 a3 y0_96 s) = s f := by
  unfold s_X9_plan_c356_3
  all_goals ((try dsimp only) <;> ((repeat' split) <;> (try simp only [put_fr, ne_eq, not_false_eq_true, h0, h43, h44, h45, h46, h47, h48, h49, h50, fr_s_X9_refuse, fr_s_X9_tries, fr_s_X9_plan_c389, fri_s_X9_plan_l389, fr_s_X9_plan_j383, fr_s_X9_plan_c356, fri_s_X9_plan_l356, fr_s_X9_plan_c356_1, fri_s_X9_plan_l356_1, fr_s_X9_plan_j330, fr_s_X9_plan_c272, fr_s_X9_plan_l261, fri_s_X9_plan_l261, fr_s_X9_plan_c261r, fr_s_X9_plan_c237, fri_s_X9_plan_l237, fr_s_X9_plan_c124, fr_s_X9_plan_j119, fr_s_X9_plan_c389_1, fri_s_X9_plan_l389_1, fr_s_X9_plan_j383_1, fr_s_X9_plan_c356_2, fri_s_X9_plan_l356_2, Sum.elim_inl, Sum.elim_inr])))
theorem fr_s_X9_plan_l356_3  (k_109 : Nat) (s : St) {f : Nat} (h0 : f ≠ 0) (h43 : f ≠ 43) (h44 : f ≠ 44) (h45 : f ≠ 45) (h46 : f ≠ 46) (h47 : f ≠ 47) (h48 : f ≠ 48) (h49 : f ≠ 49) (h50 : f ≠ 50) : (s_X9_plan_l356_3 k_109 s) f = s f := by
  unfold s_X9_plan_l356_3
  all_goals ((try dsimp only) <;> ((repeat' split) <;> (try simp only [put_fr, ne_eq, not_false_eq_true, h0, h43, h44, h45, h46, h47, h48, h49, h50, fr_s_X9_refuse, fr_s_X9_tries, fr_s_X9_plan_c389, fri_s_X9_plan_l389, fr_s_X9_plan_j383, fr_s_X9_plan_c356, fri_s_X9_plan_l356, fr_s_X9_plan_c356_1, fri_s_X9_plan_l356_1, fr_s_X9_plan_j330, fr_s_X9_plan_c272, fr_s_X9_plan_l261, fri_s_X9_plan_l261, fr_s_X9_plan_c261r, fr_s_X9_plan_c237, fri_s_X9_plan_l237, fr_s_X9_plan_c124, fr_s_X9_plan_j119, fr_s_X9_plan_c389_1, fri_s_X9_plan_l389_1, fr_s_X9_plan_j383_1, fr_s_X9_plan_c356_2, fri_s_X9_plan_l356_2, fr_s_X9_plan_c356_3])))
theorem fri_s_X9_plan_l356_3  (n k : Nat) (s : St) {f : Nat} (h0 : f ≠ 0) (h43 : f ≠ 43) (h44 : f ≠ 44) (h45 : f ≠ 45) (h46 : f ≠ 46) (h47 : f ≠ 47) (h48 : f ≠ 48) (h49 : f ≠ 49) (h50 : f ≠ 50) : (iter s_X9_plan_l356_3 n k s) f = s f := iter_fr (P := (fun s => s f)) (fun k s => fr_s_X9_plan_l356_3  k s h0 h43 h44 h45 h46 h47 h48 h49 h50) n k s
theorem fr_s_X9_plan_j330_1 (a3 : Int32) (v8_93 : Int32) (v10_95 : Int32) (y0_96 : Int32) (τ_96 : St) {f : Nat} (h0 : f ≠ 0) (h43 : f ≠ 43) (h44 : f ≠ 44) (h45 : f ≠ 45) (h46 : f ≠ 46) (h47 : f ≠ 47) (h48 : f ≠ 48) (h49 : f ≠ 49) (h50 : f ≠ 50) : Sum.elim (fun (r : (Int32 × St)) => r.2 f) (fun (t : (Int32 × Int32 × St)) => t.2.2 f) (s_X9_plan_j330_1 a3 v8_93 v10_95 y0_96 τ_96) = τ_96 f := by
  unfold s_X9_plan_j330_1
  all_goals ((try dsimp only) <;> ((repeat' split) <;> (try simp only [put_fr, ne_eq, not_false_eq_true, h0, h43, h44, h45, h46, h47, h48, h49, h50, fr_s_X9_refuse, fr_s_X9_tries, fr_s_X9_plan_c389, fri_s_X9_plan_l389, fr_s_X9_plan_j383, fr_s_X9_plan_c356, fri_s_X9_plan_l356, fr_s_X9_plan_c356_1, fri_s_X9_plan_l356_1, fr_s_X9_plan_j330, fr_s_X9_plan_c272, fr_s_X9_plan_l261, fri_s_X9_plan_l261, fr_s_X9_plan_c261r, fr_s_X9_plan_c237, fri_s_X9_plan_l237, fr_s_X9_plan_c124, fr_s_X9_plan_j119, fr_s_X9_plan_c389_1, fri_s_X9_plan_l389_1, fr_s_X9_plan_j383_1, fr_s_X9_plan_c356_2, fri_s_X9_plan_l356_2, fr_s_X9_plan_c356_3, fri_s_X9_plan_l356_3, Sum.elim_inl, Sum.elim_inr])))
theorem fr_s_X9_plan_c272_1 (a1 : Int32) (a2 : Int32) (a3 : Int32) (a4 : Int32) (v8_93 : Int32) (τ_93 : St) (s : Int32) {f : Nat} (h0 : f ≠ 0) (h43 : f ≠ 43) (h44 : f ≠ 44) (h45 : f ≠ 45) (h46 : f ≠ 46) (h47 : f ≠ 47) (h48 : f ≠ 48) (h49 : f ≠ 49) (h50 : f ≠ 50) : Sum.elim (fun (r : (Int32 × St)) => r.2 f) (fun (t : (Int32 × Int32 × St)) => t.2.2 f) (s_X9_plan_c272_1 a1 a2 a3 a4 v8_93 τ_93 s) = τ_93 f := by
  unfold s_X9_plan_c272_1
  all_goals ((try dsimp only) <;> ((repeat' split) <;> (try simp only [put_fr, ne_eq, not_false_eq_true, h0, h43, h44, h45, h46, h47, h48, h49, h50, fr_s_X9_refuse, fr_s_X9_tries, fr_s_X9_plan_c389, fri_s_X9_plan_l389, fr_s_X9_plan_j383, fr_s_X9_plan_c356, fri_s_X9_plan_l356, fr_s_X9_plan_c356_1, fri_s_X9_plan_l356_1, fr_s_X9_plan_j330, fr_s_X9_plan_c272, fr_s_X9_plan_l261, fri_s_X9_plan_l261, fr_s_X9_plan_c261r, fr_s_X9_plan_c237, fri_s_X9_plan_l237, fr_s_X9_plan_c124, fr_s_X9_plan_j119, fr_s_X9_plan_c389_1, fri_s_X9_plan_l389_1, fr_s_X9_plan_j383_1, fr_s_X9_plan_c356_2, fri_s_X9_plan_l356_2, fr_s_X9_plan_c356_3, fri_s_X9_plan_l356_3, fr_s_X9_plan_j330_1, Sum.elim_inl, Sum.elim_inr])))
theorem fr_s_X9_plan_l261_1 (a1 : Int32) (a2 : Int32) (a3 : Int32) (a4 : Int32) (k_93 : Nat) (s : (Int32 × Int32 × St)) {f : Nat} (h0 : f ≠ 0) (h43 : f ≠ 43) (h44 : f ≠ 44) (h45 : f ≠ 45) (h46 : f ≠ 46) (h47 : f ≠ 47) (h48 : f ≠ 48) (h49 : f ≠ 49) (h50 : f ≠ 50) : Sum.elim (fun (r : (Int32 × St)) => r.2 f) (fun (t : (Int32 × Int32 × St)) => t.2.2 f) (s_X9_plan_l261_1 a1 a2 a3 a4 k_93 s) = s.2.2 f := by
  obtain ⟨v9_93, v8_93, τ_93⟩ := s
  unfold s_X9_plan_l261_1
  all_goals ((try dsimp only) <;> ((repeat' split) <;> (try simp only [put_fr, ne_eq, not_false_eq_true, h0, h43, h44, h45, h46, h47, h48, h49, h50, fr_s_X9_refuse, fr_s_X9_tries, fr_s_X9_plan_c389, fri_s_X9_plan_l389, fr_s_X9_plan_j383, fr_s_X9_plan_c356, fri_s_X9_plan_l356, fr_s_X9_plan_c356_1, fri_s_X9_plan_l356_1, fr_s_X9_plan_j330, fr_s_X9_plan_c272, fr_s_X9_plan_l261, fri_s_X9_plan_l261, fr_s_X9_plan_c261r, fr_s_X9_plan_c237, fri_s_X9_plan_l237, fr_s_X9_plan_c124, fr_s_X9_plan_j119, fr_s_X9_plan_c389_1, fri_s_X9_plan_l389_1, fr_s_X9_plan_j383_1, fr_s_X9_plan_c356_2, fri_s_X9_plan_l356_2, fr_s_X9_plan_c356_3, fri_s_X9_plan_l356_3, fr_s_X9_plan_j330_1, fr_s_X9_plan_c272_1, Sum.elim_inl, Sum.elim_inr])))
theorem fri_s_X9_plan_l261_1 (a1 : Int32) (a2 : Int32) (a3 : Int32) (a4 : Int32) (n k : Nat) (s : (Int32 × Int32 × St)) {f : Nat} (h0 : f ≠ 0) (h43 : f ≠ 43) (h44 : f ≠ 44) (h45 : f ≠ 45) (h46 : f ≠ 46) (h47 : f ≠ 47) (h48 : f ≠ 48) (h49 : f ≠ 49) (h50 : f ≠ 50) : Sum.elim (fun (r : (Int32 × St)) => r.2 f) (fun (s : (Int32 × Int32 × St)) => s.2.2 f) (iterR (s_X9_plan_l261_1 a1 a2 a3 a4) n k s) = s.2.2 f := iterR_fr (P := (fun (s : (Int32 × Int32 × St)) => s.2.2 f)) (Q := fun (r : (Int32 × St)) => r.2 f) (fun k s => fr_s_X9_plan_l261_1 a1 a2 a3 a4 k s h0 h43 h44 h45 h46 h47 h48 h49 h50) n k s
theorem fr_s_X9_plan_c261r_1  (x : Sum (Int32 × St) (Int32 × Int32 × St)) {f : Nat} : (s_X9_plan_c261r_1 x).2 f = Sum.elim (fun (r : Int32 × St) => (r.2) f) (fun (t : (Int32 × Int32 × St)) => (t.2.2) f) x := by
  cases x <;> rfl
theorem fr_s_X9_plan_c237_1 (σ : St) (a1 : Int32) (a2 : Int32) (a3 : Int32) (a4 : Int32) (s : St) {f : Nat} (h0 : f ≠ 0) (h43 : f ≠ 43) (h44 : f ≠ 44) (h45 : f ≠ 45) (h46 : f ≠ 46) (h47 : f ≠ 47) (h48 : f ≠ 48) (h49 : f ≠ 49) (h50 : f ≠ 50) : (s_X9_plan_c237_1 σ a1 a2 a3 a4 s).2 f = s f := by
  unfold s_X9_plan_c237_1
  all_goals ((try dsimp only) <;> ((repeat' split) <;> (try simp only [put_fr, ne_eq, not_false_eq_true, h0, h43, h44, h45, h46, h47, h48, h49, h50, fr_s_X9_refuse, fr_s_X9_tries, fr_s_X9_plan_c389, fri_s_X9_plan_l389, fr_s_X9_plan_j383, fr_s_X9_plan_c356, fri_s_X9_plan_l356, fr_s_X9_plan_c356_1, fri_s_X9_plan_l356_1, fr_s_X9_plan_j330, fr_s_X9_plan_c272, fr_s_X9_plan_l261, fri_s_X9_plan_l261, fr_s_X9_plan_c261r, fr_s_X9_plan_c237, fri_s_X9_plan_l237, fr_s_X9_plan_c124, fr_s_X9_plan_j119, fr_s_X9_plan_c389_1, fri_s_X9_plan_l389_1, fr_s_X9_plan_j383_1, fr_s_X9_plan_c356_2, fri_s_X9_plan_l356_2, fr_s_X9_plan_c356_3, fri_s_X9_plan_l356_3, fr_s_X9_plan_j330_1, fr_s_X9_plan_c272_1, fr_s_X9_plan_l261_1, fri_s_X9_plan_l261_1, fr_s_X9_plan_c261r_1])))
theorem fr_s_X9_plan_l237_1  (k_92 : Nat) (s : St) {f : Nat} (h0 : f ≠ 0) (h43 : f ≠ 43) (h44 : f ≠ 44) (h45 : f ≠ 45) (h46 : f ≠ 46) (h47 : f ≠ 47) (h48 : f ≠ 48) (h49 : f ≠ 49) (h50 : f ≠ 50) : (s_X9_plan_l237_1 k_92 s) f = s f := by
  unfold s_X9_plan_l237_1
  all_goals ((try dsimp only) <;> ((repeat' split) <;> (try simp only [put_fr, ne_eq, not_false_eq_true, h0, h43, h44, h45, h46, h47, h48, h49, h50, fr_s_X9_refuse, fr_s_X9_tries, fr_s_X9_plan_c389, fri_s_X9_plan_l389, fr_s_X9_plan_j383, fr_s_X9_plan_c356, fri_s_X9_plan_l356, fr_s_X9_plan_c356_1, fri_s_X9_plan_l356_1, fr_s_X9_plan_j330, fr_s_X9_plan_c272, fr_s_X9_plan_l261, fri_s_X9_plan_l261, fr_s_X9_plan_c261r, fr_s_X9_plan_c237, fri_s_X9_plan_l237, fr_s_X9_plan_c124, fr_s_X9_plan_j119, fr_s_X9_plan_c389_1, fri_s_X9_plan_l389_1, fr_s_X9_plan_j383_1, fr_s_X9_plan_c356_2, fri_s_X9_plan_l356_2, fr_s_X9_plan_c356_3, fri_s_X9_plan_l356_3, fr_s_X9_plan_j330_1, fr_s_X9_plan_c272_1, fr_s_X9_plan_l261_1, fri_s_X9_plan_l261_1, fr_s_X9_plan_c261r_1, fr_s_X9_plan_c237_1])))
theorem fri_s_X9_plan_l237_1  (n k : Nat) (s : St) {f : Nat} (h0 : f ≠ 0) (h43 : f ≠ 43) (h44 : f ≠ 44) (h45 : f ≠ 45) (h46 : f ≠ 46) (h47 : f ≠ 47) (h48 : f ≠ 48) (h49 : f ≠ 49) (h50 : f ≠ 50) : (iter s_X9_plan_l237_1 n k s) f = s f := iter_fr (P := (fun s => s f)) (fun k s => fr_s_X9_plan_l237_1  k s h0 h43 h44 h45 h46 h47 h48 h49 h50) n k s
theorem fr_s_X9_plan_c124_1 (σ : St) (a1 : Int32) (a2 : Int32) (a3 : Int32) (a4 : Int32) (s : Int32) {f : Nat} (h0 : f ≠ 0) (h43 : f ≠ 43) (h44 : f ≠ 44) (h45 : f ≠ 45) (h46 : f ≠ 46) (h47 : f ≠ 47) (h48 : f ≠ 48) (h49 : f ≠ 49) (h50 : f ≠ 50) : (s_X9_plan_c124_1 σ a1 a2 a3 a4 s).2 f = σ f := by
  unfold s_X9_plan_c124_1
  all_goals ((try dsimp only) <;> ((repeat' split) <;> (try simp only [put_fr, ne_eq, not_false_eq_true, h0, h43, h44, h45, h46, h47, h48, h49, h50, fr_s_X9_refuse, fr_s_X9_tries, fr_s_X9_plan_c389, fri_s_X9_plan_l389, fr_s_X9_plan_j383, fr_s_X9_plan_c356, fri_s_X9_plan_l356, fr_s_X9_plan_c356_1, fri_s_X9_plan_l356_1, fr_s_X9_plan_j330, fr_s_X9_plan_c272, fr_s_X9_plan_l261, fri_s_X9_plan_l261, fr_s_X9_plan_c261r, fr_s_X9_plan_c237, fri_s_X9_plan_l237, fr_s_X9_plan_c124, fr_s_X9_plan_j119, fr_s_X9_plan_c389_1, fri_s_X9_plan_l389_1, fr_s_X9_plan_j383_1, fr_s_X9_plan_c356_2, fri_s_X9_plan_l356_2, fr_s_X9_plan_c356_3, fri_s_X9_plan_l356_3, fr_s_X9_plan_j330_1, fr_s_X9_plan_c272_1, fr_s_X9_plan_l261_1, fri_s_X9_plan_l261_1, fr_s_X9_plan_c261r_1, fr_s_X9_plan_c237_1, fri_s_X9_plan_l237_1])))
theorem fr_s_X9_plan_j119_1 (σ : St) (a1 : Int32) (a2 : Int32) (a3 : Int32) (a4 : Int32) (y0_88 : Int32) {f : Nat} (h0 : f ≠ 0) (h43 : f ≠ 43) (h44 : f ≠ 44) (h45 : f ≠ 45) (h46 : f ≠ 46) (h47 : f ≠ 47) (h48 : f ≠ 48) (h49 : f ≠ 49) (h50 : f ≠ 50) : (s_X9_plan_j119_1 σ a1 a2 a3 a4 y0_88).2 f = σ f := by
  unfold s_X9_plan_j119_1
  all_goals ((try dsimp only) <;> ((repeat' split) <;> (try simp only [put_fr, ne_eq, not_false_eq_true, h0, h43, h44, h45, h46, h47, h48, h49, h50, fr_s_X9_refuse, fr_s_X9_tries, fr_s_X9_plan_c389, fri_s_X9_plan_l389, fr_s_X9_plan_j383, fr_s_X9_plan_c356, fri_s_X9_plan_l356, fr_s_X9_plan_c356_1, fri_s_X9_plan_l356_1, fr_s_X9_plan_j330, fr_s_X9_plan_c272, fr_s_X9_plan_l261, fri_s_X9_plan_l261, fr_s_X9_plan_c261r, fr_s_X9_plan_c237, fri_s_X9_plan_l237, fr_s_X9_plan_c124, fr_s_X9_plan_j119, fr_s_X9_plan_c389_1, fri_s_X9_plan_l389_1, fr_s_X9_plan_j383_1, fr_s_X9_plan_c356_2, fri_s_X9_plan_l356_2, fr_s_X9_plan_c356_3, fri_s_X9_plan_l356_3, fr_s_X9_plan_j330_1, fr_s_X9_plan_c272_1, fr_s_X9_plan_l261_1, fri_s_X9_plan_l261_1, fr_s_X9_plan_c261r_1, fr_s_X9_plan_c237_1, fri_s_X9_plan_l237_1, fr_s_X9_plan_c124_1])))
theorem fr_s_X9_plan (σ : St) (a1 : Int32) (a2 : Int32) (a3 : Int32) (a4 : Int32) {f : Nat} (h0 : f ≠ 0) (h43 : f ≠ 43) (h44 : f ≠ 44) (h45 : f ≠ 45) (h46 : f ≠ 46) (h47 : f ≠ 47) (h48 : f ≠ 48) (h49 : f ≠ 49) (h50 : f ≠ 50) : (s_X9_plan σ a1 a2 a3 a4 ).2 f = σ f := by
  unfold s_X9_plan
  all_goals ((try dsimp only) <;> ((repeat' split) <;> (try simp only [put_fr, ne_eq, not_false_eq_true, h0, h43, h44, h45, h46, h47, h48, h49, h50, fr_s_X9_refuse, fr_s_X9_tries, fr_s_X9_plan_c389, fri_s_X9_plan_l389, fr_s_X9_plan_j383, fr_s_X9_plan_c356, fri_s_X9_plan_l356, fr_s_X9_plan_c356_1, fri_s_X9_plan_l356_1, fr_s_X9_plan_j330, fr_s_X9_plan_c272, fr_s_X9_plan_l261, fri_s_X9_plan_l261, fr_s_X9_plan_c261r, fr_s_X9_plan_c237, fri_s_X9_plan_l237, fr_s_X9_plan_c124, fr_s_X9_plan_j119, fr_s_X9_plan_c389_1, fri_s_X9_plan_l389_1, fr_s_X9_plan_j383_1, fr_s_X9_plan_c356_2, fri_s_X9_plan_l356_2, fr_s_X9_plan_c356_3, fri_s_X9_plan_l356_3, fr_s_X9_plan_j330_1, fr_s_X9_plan_c272_1, fr_s_X9_plan_l261_1, fri_s_X9_plan_l261_1, fr_s_X9_plan_c261r_1, fr_s_X9_plan_c237_1, fri_s_X9_plan_l237_1, fr_s_X9_plan_c124_1, fr_s_X9_plan_j119_1])))
set_option maxHeartbeats 1000000 in
set_option maxRecDepth 100000 in
theorem k_X9_plan (l : Launch) (D : va_G) (ca : Nat → ClassId) (h : Nat) (ad : Nat → Nat) (σ : St) (a1 : Int32) (a2 : Int32) (a3 : Int32) (a4 : Int32) (sz : Nat) (hI : IR σ)  (R : Int32 × St) (hR : s_X9_plan σ a1 a2 a3 a4 = R) : Met l yX9_plan wsX9_plan ({ frames := 5, cells := 0, slots := 0, locals := 131 }) (va_Pc [.ref h, .int a1, .int a2, .int a3, .int a4] (pw_pre D ca (WM ca h ad σ) sz)) (va_Qi (fun (r : Int32) (_ : Unit) => r = R.1) (fun (_ : Unit) (t : State) => pw_post D ca (WM ca h ad σ) sz (WM ca h ad (R.2)) t ∧ IR R.2) (va_A (WM ca h ad σ) sz)) 0 0 (va_A (WM ca h ad σ) sz) := by
  refine Met.ofW (cc := cX9_plan) (maxL := 13) (ret := (some .int)) (by decide) rfl ?_
  intro p e s m args below meth c s₁ B hml hv
  obtain ⟨rfl, hsz, hP, hK, hD0⟩ := hv
  have hx := B.exec
  have hb := B.bytes
  have hr := B.returns
  have hts := atoms_spec (ws := wsX9_plan) B.pre
  have hown : s.vm.findClass RX9 = some m.cls := findClass_of_methodNamed B.named
  have hlocks := B.notSynchronized
  have hu9 : ∀ w ∈ u_ws RX9 TX9 51, w ∈ wsX9_plan := fun w h => List.mem_cons_of_mem _ (uw9 w h)
  subst hsz
  have hD := hD0.self (sz := s.heap.size)
  obtain ⟨A, hAe⟩ : ∃ A, A = va_A (WM ca h ad σ) s.heap.size := ⟨_, rfl⟩
  rw [← hAe] at hD ⊢
  have hA : ∀ q : Nat, s.heap.size ≤ q → A q := fun q h => by rw [hAe]; exact Or.inr h
  have hS : va_S A s.heap s.heap [] := va_S.rf
  have hl := lv_entry ([.ref h, .int a1, .int a2, .int a3, .int a4]) (n := 13) (Nat.le_of_ble_eq_true rfl)
  rw [lg_entry_eq]
  generalize (lg_sl ([.ref h, .int a1, .int a2, .int a3, .int a4]) ++ List.replicate (13 - (lg_sl ([.ref h, .int a1, .int a2, .int a3, .int a4])).length) Slot.unset).toArray = ls at hl ⊢
  have hl : lv_has ls 13 [(0, .ref h), (1, .int a1), (2, .int a2), (3, .int a3), (4, .int a4)] := hl
  obtain ⟨H, hH⟩ : ∃ H, H = s.heap := ⟨_, rfl⟩
  have hP : va_P D vwCl (WM ca h ad σ) H := by rw [hH]; exact hP
  have hS : va_S A s.heap H [] := by rw [hH]; exact hS
  obtain ⟨QQ, hQ⟩ : ∃ Q9, Q9 = MQ below (va_Qi (fun (r : Int32) (_ : Unit) => r = R.1) (fun (_ : Unit) (t : State) => pw_post D ca (WM ca h ad σ) s.heap.size (WM ca h ad (R.2)) t ∧ IR R.2) A) ([.ref h, .int a1, .int a2, .int a3, .int a4] : List Value).toArray s 0 0 A := ⟨_, rfl⟩
  rw [← hQ]
  show W _ _ _ _ _ _ _ _ _ _ s.heap _ _ _ _ _
  rw [← hH]
  have hR : (if (s_X9_isIn a1 (σ 6 0)) = (0 : Int32) then (((s_X9_refuse σ (-1 : Int32)).1), (s_X9_refuse σ (-1 : Int32)).2) else (if a2 = (-1 : Int32) then (if a1 = a2 then (((s_X9_refuse σ (-1 : Int32)).1), (s_X9_refuse σ (-1 : Int32)).2) else (if a3 < (1 : Int32) then (((s_X9_refuse σ (-2 : Int32)).1), (s_X9_refuse σ (-2 : Int32)).2) else (if (4 : Int32) < a3 then (((s_X9_refuse σ (-2 : Int32)).1), (s_X9_refuse σ (-2 : Int32)).2) else (if a4 < (1 : Int32) then (((s_X9_refuse σ (-2 : Int32)).1), (s_X9_refuse σ (-2 : Int32)).2) else (if a4 ≤ (10 : Int32) then (if (σ 41 (a1.toNatClampNeg)) = (0 : Int32) then (s_X9_plan_j119 σ a1 a2 a3 a4 (1 : Int32)) else (s_X9_plan_j119 σ a1 a2 a3 a4 (0 : Int32))) else (((s_X9_refuse σ (-2 : Int32)).1), (s_X9_refuse σ (-2 : Int32)).2)))))) else (if (s_X9_isIn a2 (σ 6 0)) = (0 : Int32) then (((s_X9_refuse σ (-1 : Int32)).1), (s_X9_refuse σ (-1 : Int32)).2) else (if a1 = a2 then (((s_X9_refuse σ (-1 : Int32)).1), (s_X9_refuse σ (-1 : Int32)).2) else (if a3 < (1 : Int32) then (((s_X9_refuse σ (-2 : Int32)).1), (s_X9_refuse σ (-2 : Int32)).2) else (if (2 : Int32) < a3 then (((s_X9_refuse σ (-2 : Int32)).1), (s_X9_refuse σ (-2 : Int32)).2) else (if a4 < (1 : Int32) then (((s_X9_refuse σ (-2 : Int32)).1), (s_X9_refuse σ (-2 : Int32)).2) else (if a4 ≤ (10 : Int32) then (if (σ 41 (a1.toNatClampNeg)) = (0 : Int32) then (if (σ 41 (a2.toNatClampNeg)) = (0 : Int32) then (s_X9_plan_j119_1 σ a1 a2 a3 a4 (1 : Int32)) else (s_X9_plan_j119_1 σ a1 a2 a3 a4 (0 : Int32))) else (s_X9_plan_j119_1 σ a1 a2 a3 a4 (0 : Int32))) else (((s_X9_refuse σ (-2 : Int32)).1), (s_X9_refuse σ (-2 : Int32)).2))))))))) = R := hR
  refine lv_iload_n hx hb dX9_plan_0 rfl (lv_at hl 1 rfl) ?_
  refine lv_aload_n hx hb dX9_plan_1 rfl (lv_at hl 0 rfl) ?_
  refine va_get (D := D) (ci := 9) (v := .int (σ 6 0)) (C := RX9) (T := TX9) (N := 51) hx hb hts hu9 hown hK hP 0 wm_0 rfl 6 (by decide) (hts (.fieldLink RX9 164 "GrazeBookModel" "herds" "I") (List.mem_cons_of_mem _ mw_789)) (fun _ h9 => h9) rfl dX9_plan_2 ?_
  have hF := pw_free (pn_D (A := A)) hS hA
  refine va_calli (va_runS (As := [.int a1, .int (σ 6 0)]) (rest := []) ⟨hx, hb, hml, hown, hts⟩ (k_X9_isIn l D ca a1 (σ 6 0) H.size _ rfl) (va_cwS 2 hts gX9_plan_X9_isIn rfl rfl rfl (by decide +kernel) ⟨Nat.le_of_ble_eq_true rfl, Nat.le_of_ble_eq_true rfl⟩) ⟨pw_blind, pw_give pn_P hK (pn_D (A := A))⟩ rfl rfl hl.1 rfl (lv_room (Nat.le_of_ble_eq_true rfl)) dX9_plan_5 ⟨Nat.le_of_ble_eq_true rfl, Nat.le_of_ble_eq_true rfl⟩) hS (fun q _ h => hF q h) hF (fun r_1 u t H1 locs ht hvm hw hB hz1 hk1 hS => ?_)
  subst hw
  have hP := pn_back hP hk1
  clear hB hk1 hz1 hF
  generalize H1 = H at hP hS ⊢
  refine lv_if_eq (tgt := 32) hx hb dX9_plan_8 (by decide) (fun c_2 => ?_) (fun c_2 => ?_)
  · have hR := (if_pos c_2).symm.trans hR
    refine lv_aload_n hx hb dX9_plan_32 rfl (lv_at hl 0 rfl) ?_
    refine lv_iconst (v := (-1 : Int32)) hx hb dX9_plan_33 (by decide) ?_
    have hF := pw_free hD hS hA
    refine va_calli (va_runV (As := [.int (-1 : Int32)]) (rest := []) ⟨hx, hb, hml, hown, hts⟩ (k_X9_refuse l D ca h ad σ (-1 : Int32) H.size hI (by unfold vp_in; decide) _ rfl) (cwV 1 hts gX9_plan_X9_refuse rfl rfl rfl (by decide +kernel) ⟨Nat.le_of_ble_eq_true rfl, Nat.le_of_ble_eq_true rfl⟩) ⟨pw_blind, va_recv hK hP (ci := 9) (q0 := 0) rfl wm_0, pw_give hP hK hD⟩ rfl rfl hl.1 rfl (lv_room (Nat.le_of_ble_eq_true rfl)) dX9_plan_34 ⟨Nat.le_of_ble_eq_true rfl, Nat.le_of_ble_eq_true rfl⟩) hS (fun q _ h => hF q h) hF (fun r_3 u t H1 locs ht hvm hw hB hz1 hk1 hS => ?_)
    subst hw
    obtain ⟨hB, hI_4⟩ := hB
    obtain ⟨hP, hD⟩ := pw_back hF ht hB
    clear hB hk1 hz1 hF
    generalize H1 = H at hP hS ⊢
    have hI9 : IR ((s_X9_refuse σ (-1 : Int32)).2) := hI_4
    subst hR
    rw [hQ]
    exact W.iret (v := ((s_X9_refuse σ (-1 : Int32)).1)) hx hb hr (fun t ht hW => ⟨⟨((s_X9_refuse σ (-1 : Int32)).1), (), rfl, rfl, ⟨by rw [ht]; exact hP, va_K.moved hW.alike hK, by rw [← hAe]; exact hD⟩, hI9⟩, hS.F ht⟩) hS.2.2 dX9_plan_37
  · have hR := (if_neg c_2).symm.trans hR
    refine lv_iload_n hx hb dX9_plan_11 rfl (lv_at hl 2 rfl) ?_
    refine lv_iconst (v := (-1 : Int32)) hx hb dX9_plan_12 (by decide) ?_
    refine lv_icmp_eq (tgt := 27) hx hb dX9_plan_13 (by decide) (fun c_5 => ?_) (fun c_5 => ?_)
    · have hR := (if_pos c_5).symm.trans hR
      refine lv_iload_n hx hb dX9_plan_27 rfl (lv_at hl 1 rfl) ?_
      refine lv_iload_n hx hb dX9_plan_28 rfl (lv_at hl 2 rfl) ?_
      refine lv_icmp_ne (tgt := 38) hx hb dX9_plan_29 (by decide) (fun c_6 => ?_) (fun c_6 => ?_)
      · have hR := (if_neg c_6).symm.trans hR
        refine lv_iload_n hx hb dX9_plan_38 rfl (lv_at hl 2 rfl) ?_
        refine lv_iconst (v := (-1 : Int32)) hx hb dX9_plan_39 (by decide) ?_
        refine lv_icmp_ne (tgt := 47) hx hb dX9_plan_40 (by decide) (fun c_7 => absurd c_5 c_7) (fun _ => ?_)
        refine lv_iconst (v := (1 : Int32)) hx hb dX9_plan_43 (by decide) ?_
        refine lv_goto (tgt := 48) hx hb dX9_plan_44 (by decide) ?_
        refine lv_istore (lv' := [(5, .int (1 : Int32)), (0, .ref h), (1, .int a1), (2, .int a2), (3, .int a3), (4, .int a4)]) hx hb dX9_plan_48 hl (by decide) rfl (fun ls hl => ?_)
        refine lv_iload_n hx hb dX9_plan_50 rfl (lv_at hl 4 rfl) ?_
        refine lv_iconst (v := (1 : Int32)) hx hb dX9_plan_51 (by decide) ?_
        refine lv_icmp_lt (tgt := 83) hx hb dX9_plan_52 (by decide) (fun c_8 => ?_) (fun c_8 => ?_)
        · have hR := (if_pos c_8).symm.trans hR
          refine lv_aload_n hx hb dX9_plan_83 rfl (lv_at hl 1 rfl) ?_
          refine lv_bipush (v := (-2 : Int32)) hx hb dX9_plan_84 (by decide) ?_
          have hF := pw_free hD hS hA
          refine va_calli (va_runV (As := [.int (-2 : Int32)]) (rest := []) ⟨hx, hb, hml, hown, hts⟩ (k_X9_refuse l D ca h ad σ (-2 : Int32) H.size hI (by unfold vp_in; decide) _ rfl) (cwV 1 hts gX9_plan_X9_refuse rfl rfl rfl (by decide +kernel) ⟨Nat.le_of_ble_eq_true rfl, Nat.le_of_ble_eq_true rfl⟩) ⟨pw_blind, va_recv hK hP (ci := 9) (q0 := 0) rfl wm_0, pw_give hP hK hD⟩ rfl rfl hl.1 rfl (lv_room (Nat.le_of_ble_eq_true rfl)) dX9_plan_86 ⟨Nat.le_of_ble_eq_true rfl, Nat.le_of_ble_eq_true rfl⟩) hS (fun q _ h => hF q h) hF (fun r_9 u t H1 locs ht hvm hw hB hz1 hk1 hS => ?_)
          subst hw
          obtain ⟨hB, hI_10⟩ := hB
          obtain ⟨hP, hD⟩ := pw_back hF ht hB
          clear hB hk1 hz1 hF
          generalize H1 = H at hP hS ⊢
          have hI9 : IR ((s_X9_refuse σ (-2 : Int32)).2) := hI_10
          subst hR
          rw [hQ]
          exact W.iret (v := ((s_X9_refuse σ (-2 : Int32)).1)) hx hb hr (fun t ht hW => ⟨⟨((s_X9_refuse σ (-2 : Int32)).1), (), rfl, rfl, ⟨by rw [ht]; exact hP, va_K.moved hW.alike hK, by rw [← hAe]; exact hD⟩, hI9⟩, hS.F ht⟩) hS.2.2 dX9_plan_89
        · have hR := (if_neg c_8).symm.trans hR
          refine lv_iload_n hx hb dX9_plan_55 rfl (lv_at hl 4 rfl) ?_
          refine lv_iload hx hb dX9_plan_56 (lv_at hl 0 rfl) ?_
          refine lv_iconst (v := (1 : Int32)) hx hb dX9_plan_58 (by decide) ?_
          refine lv_icmp_ne (tgt := 66) hx hb dX9_plan_59 (by decide) (fun c_11 => absurd (by decide) c_11) (fun _ => ?_)
          refine lv_iconst (v := (4 : Int32)) hx hb dX9_plan_62 (by decide) ?_
          refine lv_goto (tgt := 67) hx hb dX9_plan_63 (by decide) ?_
          refine lv_icmp_gt (tgt := 83) hx hb dX9_plan_67 (by decide) (fun c_12 => ?_) (fun c_12 => ?_)
          · have hR := (if_pos c_12).symm.trans hR
            refine lv_aload_n hx hb dX9_plan_83 rfl (lv_at hl 1 rfl) ?_
            refine lv_bipush (v := (-2 : Int32)) hx hb dX9_plan_84 (by decide) ?_
            have hF := pw_free hD hS hA
            refine va_calli (va_runV (As := [.int (-2 : Int32)]) (rest := []) ⟨hx, hb, hml, hown, hts⟩ (k_X9_refuse l D ca h ad σ (-2 : Int32) H.size hI (by unfold vp_in; decide) _ rfl) (cwV 1 hts gX9_plan_X9_refuse rfl rfl rfl (by decide +kernel) ⟨Nat.le_of_ble_eq_true rfl, Nat.le_of_ble_eq_true rfl⟩) ⟨pw_blind, va_recv hK hP (ci := 9) (q0 := 0) rfl wm_0, pw_give hP hK hD⟩ rfl rfl hl.1 rfl (lv_room (Nat.le_of_ble_eq_true rfl)) dX9_plan_86 ⟨Nat.le_of_ble_eq_true rfl, Nat.le_of_ble_eq_true rfl⟩) hS (fun q _ h => hF q h) hF (fun r_13 u t H1 locs ht hvm hw hB hz1 hk1 hS => ?_)
            subst hw
            obtain ⟨hB, hI_14⟩ := hB
            obtain ⟨hP, hD⟩ := pw_back hF ht hB
            clear hB hk1 hz1 hF
            generalize H1 = H at hP hS ⊢
            have hI9 : IR ((s_X9_refuse σ (-2 : Int32)).2) := hI_14
            subst hR
            rw [hQ]
            exact W.iret (v := ((s_X9_refuse σ (-2 : Int32)).1)) hx hb hr (fun t ht hW => ⟨⟨((s_X9_refuse σ (-2 : Int32)).1), (), rfl, rfl, ⟨by rw [ht]; exact hP, va_K.moved hW.alike hK, by rw [← hAe]; exact hD⟩, hI9⟩, hS.F ht⟩) hS.2.2 dX9_plan_89
          · have hR := (if_neg c_12).symm.trans hR
            refine lv_iload hx hb dX9_plan_70 (lv_at hl 5 rfl) ?_
            refine lv_iconst (v := (1 : Int32)) hx hb dX9_plan_72 (by decide) ?_
            refine lv_icmp_lt (tgt := 83) hx hb dX9_plan_73 (by decide) (fun c_15 => ?_) (fun c_15 => ?_)
            · have hR := (if_pos c_15).symm.trans hR
              refine lv_aload_n hx hb dX9_plan_83 rfl (lv_at hl 1 rfl) ?_
              refine lv_bipush (v := (-2 : Int32)) hx hb dX9_plan_84 (by decide) ?_
              have hF := pw_free hD hS hA
              refine va_calli (va_runV (As := [.int (-2 : Int32)]) (rest := []) ⟨hx, hb, hml, hown, hts⟩ (k_X9_refuse l D ca h ad σ (-2 : Int32) H.size hI (by unfold vp_in; decide) _ rfl) (cwV 1 hts gX9_plan_X9_refuse rfl rfl rfl (by decide +kernel) ⟨Nat.le_of_ble_eq_true rfl, Nat.le_of_ble_eq_true rfl⟩) ⟨pw_blind, va_recv hK hP (ci := 9) (q0 := 0) rfl wm_0, pw_give hP hK hD⟩ rfl rfl hl.1 rfl (lv_room (Nat.le_of_ble_eq_true rfl)) dX9_plan_86 ⟨Nat.le_of_ble_eq_true rfl, Nat.le_of_ble_eq_true rfl⟩) hS (fun q _ h => hF q h) hF (fun r_16 u t H1 locs ht hvm hw hB hz1 hk1 hS => ?_)
              subst hw
              obtain ⟨hB, hI_17⟩ := hB
              obtain ⟨hP, hD⟩ := pw_back hF ht hB
              clear hB hk1 hz1 hF
              generalize H1 = H at hP hS ⊢
              have hI9 : IR ((s_X9_refuse σ (-2 : Int32)).2) := hI_17
              subst hR
              rw [hQ]
              exact W.iret (v := ((s_X9_refuse σ (-2 : Int32)).1)) hx hb hr (fun t ht hW => ⟨⟨((s_X9_refuse σ (-2 : Int32)).1), (), rfl, rfl, ⟨by rw [ht]; exact hP, va_K.moved hW.alike hK, by rw [← hAe]; exact hD⟩, hI9⟩, hS.F ht⟩) hS.2.2 dX9_plan_89
            · have hR := (if_neg c_15).symm.trans hR
              refine lv_iload hx hb dX9_plan_76 (lv_at hl 5 rfl) ?_
              refine lv_bipush (v := (10 : Int32)) hx hb dX9_plan_78 (by decide) ?_
              refine lv_icmp_le (tgt := 90) hx hb dX9_plan_80 (by decide) (fun c_18 => ?_) (fun c_18 => ?_)
              · have hR := (if_pos c_18).symm.trans hR
                refine lv_aload_n hx hb dX9_plan_90 rfl (lv_at hl 1 rfl) ?_
                refine va_get (D := D) (ci := 9) (v := .ref (ad 41)) (C := RX9) (T := TX9) (N := 51) hx hb hts hu9 hown hK hP 0 wm_0 rfl 41 (by decide) (hts (.fieldLink RX9 98 "GrazeBookModel" "hState" "[I") (List.mem_cons_of_mem _ mw_824)) (fun _ h9 => h9) rfl dX9_plan_91 ?_
                refine lv_iload_n hx hb dX9_plan_94 rfl (lv_at hl 2 rfl) ?_
                refine va_iald_k (k := (a1.toNatClampNeg)) (v := (σ 41 (a1.toNatClampNeg))) hx hb hK hP 30 0 wm_a41 rfl rfl rfl (ix_isIn c_2 (ir_6 hI)) dX9_plan_95 ?_
                have hJ_19 : ∀ (y0_19 : Int32) (H : Heap) (locs : List Loc) (ls : Array Slot), s_X9_plan_j119 σ a1 a2 a3 a4 y0_19 = R → va_P D vwCl (WM ca h ad σ) H → va_D A (WM ca h ad σ) → va_S A s.heap H locs → lv_has ls 13 [(5, .int (1 : Int32)), (0, .ref h), (1, .int a1), (2, .int a2), (3, .int a3), (4, .int a4)] → W p l e ((headSpec wsX9_plan ({ frames := 5, cells := 0, slots := 0, locals := 131 })).room) s m ([.ref h, .int a1, .int a2, .int a3, .int a4] : List Value).toArray below meth c H locs 0 0 QQ (F0 m 119 ls [.int y0_19]) := by
                  intro y0_19 H locs ls hR hP hD hS hl
                  have hR : (s_X9_plan_c124 σ a1 a2 a3 a4 (iterC (s_X9_plan_l124 σ a4) (a3.toNatClampNeg - 0) 0 y0_19)) = R := hR
                  refine lv_istore (lv' := [(6, .int y0_19), (5, .int (1 : Int32)), (0, .ref h), (1, .int a1), (2, .int a2), (3, .int a3), (4, .int a4)]) hx hb dX9_plan_119 hl (by decide) rfl (fun ls hl => ?_)
                  refine lv_iconst (v := (0 : Int32)) hx hb dX9_plan_121 (by decide) ?_
                  refine lv_istore (lv' := [(7, .int (0 : Int32)), (6, .int y0_19), (5, .int (1 : Int32)), (0, .ref h), (1, .int a1), (2, .int a2), (3, .int a3), (4, .int a4)]) hx hb dX9_plan_122 hl (by decide) rfl (fun ls hl => ?_)
                  have hE_20 : ∀ (v6_20 : Int32) (hg_20 : ¬ v6_20 = (0 : Int32) → 0 < (σ 2 0).toNatClampNeg) (H : Heap) (locs : List Loc) (ls : Array Slot), s_X9_plan_c124 σ a1 a2 a3 a4 v6_20 = R → va_P D vwCl (WM ca h ad σ) H → va_D A (WM ca h ad σ) → va_S A s.heap H locs → lv_has ls 13 [(6, .int v6_20), (5, .int (1 : Int32)), (0, .ref h), (1, .int a1), (2, .int a2), (3, .int a3), (4, .int a4)] → W p l e ((headSpec wsX9_plan ({ frames := 5, cells := 0, slots := 0, locals := 131 })).room) s m ([.ref h, .int a1, .int a2, .int a3, .int a4] : List Value).toArray below meth c H locs 0 0 QQ (F0 m 191 ls []) := by
                    intro v6_20 hg_20 H locs ls hR hP hD hS hl
                    have hR : (if v6_20 = (0 : Int32) then (((s_X9_refuse σ (-3 : Int32)).1), (s_X9_refuse σ (-3 : Int32)).2) else (if ((σ 1 0) + (a3 * a4)) ≤ (720 : Int32) then (s_X9_plan_c237 σ a1 a2 a3 a4 (iter s_X9_plan_l237 (((1 : Int32) * a3).toNatClampNeg - 0) 0 σ)) else (((s_X9_refuse σ (-6 : Int32)).1), (s_X9_refuse σ (-6 : Int32)).2))) = R := hR
                    refine lv_iload hx hb dX9_plan_191 (lv_at hl 0 rfl) ?_
                    refine lv_if_ne (tgt := 203) hx hb dX9_plan_193 (by decide) (fun c_21 => ?_) (fun c_21 => ?_)
                    · have hR := (if_neg c_21).symm.trans hR
                      refine lv_aload_n hx hb dX9_plan_203 rfl (lv_at hl 2 rfl) ?_
                      refine va_get (D := D) (ci := 9) (v := .int (σ 1 0)) (C := RX9) (T := TX9) (N := 51) hx hb hts hu9 hown hK hP 0 wm_0 rfl 1 (by decide) (hts (.fieldLink RX9 141 "GrazeBookModel" "day" "I") (List.mem_cons_of_mem _ mw_784)) (fun _ h9 => h9) rfl dX9_plan_204 ?_
                      refine lv_iload_n hx hb dX9_plan_207 rfl (lv_at hl 5 rfl) ?_
                      refine lv_iload hx hb dX9_plan_208 (lv_at hl 6 rfl) ?_
                      refine lv_imul hx hb dX9_plan_210 ?_
                      refine lv_iadd hx hb dX9_plan_211 ?_
                      refine lv_sipush (v := (720 : Int32)) hx hb dX9_plan_212 (by decide) ?_
                      refine lv_icmp_le (tgt := 225) hx hb dX9_plan_215 (by decide) (fun c_22 => ?_) (fun c_22 => ?_)
                      · have hR := (if_pos c_22).symm.trans hR
                        refine lv_iload hx hb dX9_plan_225 (lv_at hl 1 rfl) ?_
                        refine lv_iload_n hx hb dX9_plan_227 rfl (lv_at hl 5 rfl) ?_
                        refine lv_imul hx hb dX9_plan_228 ?_
                        refine lv_istore (lv' := [(7, .int ((1 : Int32) * a3)), (6, .int v6_20), (5, .int (1 : Int32)), (0, .ref h), (1, .int a1), (2, .int a2), (3, .int a3), (4, .int a4)]) hx hb dX9_plan_229 hl (by decide) rfl (fun ls hl => ?_)
                        refine lv_iconst (v := (-1 : Int32)) hx hb dX9_plan_231 (by decide) ?_
                        refine lv_istore (lv' := [(8, .int (-1 : Int32)), (7, .int ((1 : Int32) * a3)), (6, .int v6_20), (5, .int (1 : Int32)), (0, .ref h), (1, .int a1), (2, .int a2), (3, .int a3), (4, .int a4)]) hx hb dX9_plan_232 hl (by decide) rfl (fun ls hl => ?_)
                        refine lv_iconst (v := (0 : Int32)) hx hb dX9_plan_234 (by decide) ?_
                        refine lv_istore (lv' := [(9, .int (0 : Int32)), (8, .int (-1 : Int32)), (7, .int ((1 : Int32) * a3)), (6, .int v6_20), (5, .int (1 : Int32)), (0, .ref h), (1, .int a1), (2, .int a2), (3, .int a3), (4, .int a4)]) hx hb dX9_plan_235 hl (by decide) rfl (fun ls hl => ?_)
                        have hE_23 : ∀ (τ_23 : St) (hI_23 : IR τ_23) (hf1_23 : τ_23 1 = σ 1) (hf2_23 : τ_23 2 = σ 2) (hz_23 : ∀ j : Nat, j < ((1 : Int32) * a3).toNatClampNeg → τ_23 47 j = 0) (H : Heap) (locs : List Loc) (ls : Array Slot), s_X9_plan_c237 σ a1 a2 a3 a4 τ_23 = R → va_P D vwCl (WM ca h ad τ_23) H → va_D A (WM ca h ad τ_23) → va_S A s.heap H locs → lv_has ls 13 [(8, .int (-1 : Int32)), (7, .int ((1 : Int32) * a3)), (5, .int (1 : Int32)), (0, .ref h), (1, .int a1), (2, .int a2), (3, .int a3), (4, .int a4)] → W p l e ((headSpec wsX9_plan ({ frames := 5, cells := 0, slots := 0, locals := 131 })).room) s m ([.ref h, .int a1, .int a2, .int a3, .int a4] : List Value).toArray below meth c H locs 0 0 QQ (F0 m 258 ls []) := by
                          intro τ_23 hI_23 hf1_23 hf2_23 hz_23 H locs ls hR hP hD hS hl
                          have hR : (s_X9_plan_c261r (iterR (s_X9_plan_l261 a1 a2 a3 a4) (1 + (σ 2 0).toNatClampNeg ^ ((1 : Int32) * a3).toNatClampNeg) 0 ((1 : Int32), (-1 : Int32), τ_23))) = R := hR
                          refine lv_iconst (v := (1 : Int32)) hx hb dX9_plan_258 (by decide) ?_
                          refine lv_istore (lv' := [(9, .int (1 : Int32)), (8, .int (-1 : Int32)), (7, .int ((1 : Int32) * a3)), (5, .int (1 : Int32)), (0, .ref h), (1, .int a1), (2, .int a2), (3, .int a3), (4, .int a4)]) hx hb dX9_plan_259 hl (by decide) rfl (fun ls hl => ?_)
                          have hL_24 : ∀ (n k_24 : Nat) (v9_24 : Int32) (v8_24 : Int32) (τ_24 : St) (hI_24 : IR τ_24) (hf1_24 : τ_24 1 = σ 1) (hf2_24 : τ_24 2 = σ 2) (ht_24 : okT τ_24 (σ 2 0).toNatClampNeg ((1 : Int32) * a3).toNatClampNeg) (hm_24 : MS v9_24 τ_24 (σ 2 0).toNatClampNeg ((1 : Int32) * a3).toNatClampNeg n) (H : Heap) (locs : List Loc) (ls : Array Slot), s_X9_plan_c261r (iterR (s_X9_plan_l261 a1 a2 a3 a4) n k_24 (v9_24, v8_24, τ_24)) = R → va_P D vwCl (WM ca h ad τ_24) H → va_D A (WM ca h ad τ_24) → va_S A s.heap H locs → lv_has ls 13 [(9, .int v9_24), (8, .int v8_24), (7, .int ((1 : Int32) * a3)), (5, .int (1 : Int32)), (0, .ref h), (1, .int a1), (2, .int a2), (3, .int a3), (4, .int a4)] → W p l e ((headSpec wsX9_plan ({ frames := 5, cells := 0, slots := 0, locals := 131 })).room) s m ([.ref h, .int a1, .int a2, .int a3, .int a4] : List Value).toArray below meth c H locs 0 0 QQ (F0 m 261 ls []) := by
                            intro n
                            induction n with
                            | zero =>
                              intro k_24 v9_24 v8_24 τ_24 hI_24 hf1_24 hf2_24 ht_24 hm_24 H locs ls hR hP hD hS hl
                              exact absurd trivial (fun _ => ms_zero hm_24 ht_24)
                            | succ n ih =>
                              intro k_24 v9_24 v8_24 τ_24 hI_24 hf1_24 hf2_24 ht_24 hm_24 H locs ls hR hP hD hS hl
                              obtain ⟨S_24, hB_24⟩ : ∃ s9, s_X9_plan_l261 a1 a2 a3 a4 k_24 (v9_24, v8_24, τ_24) = s9 := ⟨_, rfl⟩
                              have hR : s_X9_plan_c261r (iterR1 (s_X9_plan_l261 a1 a2 a3 a4) n k_24 S_24) = R := by rw [← hB_24]; exact hR
                              have hB_24 : (if v9_24 = (0 : Int32) then (Sum.inl (v8_24, (put (put τ_24 49 0 a3) 50 0 (1 : Int32)))) else (s_X9_plan_c272 a1 a2 a3 a4 v8_24 τ_24 (iterC (s_X9_plan_l272 a4 τ_24) (((1 : Int32) * a3).toNatClampNeg - 0) 0 (1 : Int32)))) = S_24 := hB_24
                              refine lv_iload hx hb dX9_plan_261 (lv_at hl 0 rfl) ?_
                              refine lv_if_eq (tgt := 455) hx hb dX9_plan_263 (by decide) (fun c_25 => ?_) (fun c_25 => ?_)
                              · have hB_24 := (if_pos c_25).symm.trans hB_24
                                refine lv_aload_n hx hb dX9_plan_455 rfl (lv_at hl 4 rfl) ?_
                                refine lv_iload_n hx hb dX9_plan_456 rfl (lv_at hl 7 rfl) ?_
                                refine va_put (D := D) (ci := 9) (v := .int a3) (ty := .int) (C := RX9) (T := TX9) (N := 51) hx hb hts hu9 tyX9 tyX9_ok nmX9 hown hK hP hD hS 0 wm_0 rfl 49 (by decide) (hts (.fieldLink RX9 250 "GrazeBookModel" "planSteps" "I") (List.mem_cons_of_mem _ mw_832)) (fun _ h9 => h9) rfl (by decide +kernel) rfl rfl (Nat.le_of_ble_eq_true rfl) dX9_plan_457 (fun H locs hP hD hS => ?_)
                                rw [wm_p49] at hP hD
                                refine lv_aload_n hx hb dX9_plan_460 rfl (lv_at hl 4 rfl) ?_
                                refine lv_iload hx hb dX9_plan_461 (lv_at hl 3 rfl) ?_
                                refine va_put (D := D) (ci := 9) (v := .int (1 : Int32)) (ty := .int) (C := RX9) (T := TX9) (N := 51) hx hb hts hu9 tyX9 tyX9_ok nmX9 hown hK hP hD hS 0 wm_0 rfl 50 (by decide) (hts (.fieldLink RX9 253 "GrazeBookModel" "planHerds" "I") (List.mem_cons_of_mem _ mw_833)) (fun _ h9 => h9) rfl (by decide +kernel) rfl rfl (Nat.le_of_ble_eq_true rfl) dX9_plan_463 (fun H locs hP hD hS => ?_)
                                rw [wm_p50] at hP hD
                                refine lv_iload hx hb dX9_plan_466 (lv_at hl 1 rfl) ?_
                                subst hB_24
                                have hI9 : IR (put (put τ_24 49 0 a3) 50 0 (1 : Int32)) := (ir_putplan (σ := τ_24) hI_24 (pl_prod (pl_ok (n := 1) (m := 4) (by decide) (not_lt0 c_8) (le_i (not_lt0 c_12) (by decide)) (not_lt0 c_15) c_18)))
                                subst hR
                                rw [hQ]
                                exact W.iret (v := v8_24) hx hb hr (fun t ht hW => ⟨⟨v8_24, (), rfl, rfl, ⟨by rw [ht]; exact hP, va_K.moved hW.alike hK, by rw [← hAe]; exact hD⟩, hI9⟩, hS.F ht⟩) hS.2.2 dX9_plan_468
                              · have hB_24 := (if_neg c_25).symm.trans hB_24
                                refine lv_iconst (v := (1 : Int32)) hx hb dX9_plan_266 (by decide) ?_
                                refine lv_istore (lv' := [(10, .int (1 : Int32)), (9, .int v9_24), (8, .int v8_24), (7, .int ((1 : Int32) * a3)), (5, .int (1 : Int32)), (0, .ref h), (1, .int a1), (2, .int a2), (3, .int a3), (4, .int a4)]) hx hb dX9_plan_267 hl (by decide) rfl (fun ls hl => ?_)
                                refine lv_iconst (v := (0 : Int32)) hx hb dX9_plan_269 (by decide) ?_
                                refine lv_istore (lv' := [(11, .int (0 : Int32)), (10, .int (1 : Int32)), (9, .int v9_24), (8, .int v8_24), (7, .int ((1 : Int32) * a3)), (5, .int (1 : Int32)), (0, .ref h), (1, .int a1), (2, .int a2), (3, .int a3), (4, .int a4)]) hx hb dX9_plan_270 hl (by decide) rfl (fun ls hl => ?_)
                                have hE_26 : ∀ (v10_26 : Int32) (H : Heap) (locs : List Loc) (ls : Array Slot), s_X9_plan_c272 a1 a2 a3 a4 v8_24 τ_24 v10_26 = S_24 → va_P D vwCl (WM ca h ad τ_24) H → va_D A (WM ca h ad τ_24) → va_S A s.heap H locs → lv_has ls 13 [(10, .int v10_26), (8, .int v8_24), (7, .int ((1 : Int32) * a3)), (5, .int (1 : Int32)), (0, .ref h), (1, .int a1), (2, .int a2), (3, .int a3), (4, .int a4)] → W p l e ((headSpec wsX9_plan ({ frames := 5, cells := 0, slots := 0, locals := 131 })).room) s m ([.ref h, .int a1, .int a2, .int a3, .int a4] : List Value).toArray below meth c H locs 0 0 QQ (F0 m 310 ls []) := by
                                  intro v10_26 H locs ls hB_24 hP hD hS hl
                                  have hB_24 : (if v10_26 = (0 : Int32) then (s_X9_plan_j330 a3 v8_24 v10_26 (-1 : Int32) τ_24) else (s_X9_plan_j330 a3 v8_24 v10_26 ((s_X9_tries τ_24 a1 a2 (1 : Int32) a3 a4).1) ((s_X9_tries τ_24 a1 a2 (1 : Int32) a3 a4).2))) = S_24 := hB_24
                                  refine lv_iload hx hb dX9_plan_310 (lv_at hl 0 rfl) ?_
                                  have hJ_27 : ∀ (y0_27 : Int32) (τ_27 : St) (hI_27 : IR τ_27) (hf47_27 : τ_27 47 = τ_24 47)  (hf1_27 : τ_27 1 = σ 1)  (hf2_27 : τ_27 2 = σ 2) (H : Heap) (locs : List Loc) (ls : Array Slot), s_X9_plan_j330 a3 v8_24 v10_26 y0_27 τ_27 = S_24 → va_P D vwCl (WM ca h ad τ_27) H → va_D A (WM ca h ad τ_27) → va_S A s.heap H locs → lv_has ls 13 [(10, .int v10_26), (8, .int v8_24), (7, .int ((1 : Int32) * a3)), (5, .int (1 : Int32)), (0, .ref h), (1, .int a1), (2, .int a2), (3, .int a3), (4, .int a4)] → W p l e ((headSpec wsX9_plan ({ frames := 5, cells := 0, slots := 0, locals := 131 })).room) s m ([.ref h, .int a1, .int a2, .int a3, .int a4] : List Value).toArray below meth c H locs 0 0 QQ (F0 m 330 ls [.int y0_27]) := by
                                    intro y0_27 τ_27 hI_27 hf47_27 hf1_27 hf2_27 H locs ls hB_24 hP hD hS hl
                                    have hB_24 : (if v10_26 = (0 : Int32) then (s_X9_plan_j383 a3 v8_24 τ_27) else (if v8_24 < (0 : Int32) then (s_X9_plan_c356 a3 y0_27 (iter s_X9_plan_l356 (((1 : Int32) * a3).toNatClampNeg - 0) 0 τ_27)) else (if v8_24 ≤ y0_27 then (s_X9_plan_j383 a3 v8_24 τ_27) else (s_X9_plan_c356_1 a3 y0_27 (iter s_X9_plan_l356_1 (((1 : Int32) * a3).toNatClampNeg - 0) 0 τ_27))))) = S_24 := hB_24
                                    refine lv_istore (lv' := [(11, .int y0_27), (10, .int v10_26), (8, .int v8_24), (7, .int ((1 : Int32) * a3)), (5, .int (1 : Int32)), (0, .ref h), (1, .int a1), (2, .int a2), (3, .int a3), (4, .int a4)]) hx hb dX9_plan_330 hl (by decide) rfl (fun ls hl => ?_)
                                    refine lv_iload hx hb dX9_plan_332 (lv_at hl 1 rfl) ?_
                                    have hJ_28 : ∀ (v8_28 : Int32) (τ_28 : St) (hI_28 : IR τ_28) (hf47_28 : τ_28 47 = τ_24 47)  (hf1_28 : τ_28 1 = σ 1)  (hf2_28 : τ_28 2 = σ 2) (H : Heap) (locs : List Loc) (ls : Array Slot), s_X9_plan_j383 a3 v8_28 τ_28 = S_24 → va_P D vwCl (WM ca h ad τ_28) H → va_D A (WM ca h ad τ_28) → va_S A s.heap H locs → lv_has ls 13 [(8, .int v8_28), (7, .int ((1 : Int32) * a3)), (5, .int (1 : Int32)), (0, .ref h), (1, .int a1), (2, .int a2), (3, .int a3), (4, .int a4)] → W p l e ((headSpec wsX9_plan ({ frames := 5, cells := 0, slots := 0, locals := 131 })).room) s m ([.ref h, .int a1, .int a2, .int a3, .int a4] : List Value).toArray below meth c H locs 0 0 QQ (F0 m 383 ls []) := by
                                      intro v8_28 τ_28 hI_28 hf47_28 hf1_28 hf2_28 H locs ls hB_24 hP hD hS hl
                                      have hB_24 : (s_X9_plan_c389 v8_28 (iterDC s_X9_plan_l389 ((1 : Int32) * a3).toNatClampNeg τ_28)) = S_24 := hB_24
                                      refine lv_iload hx hb dX9_plan_383 (lv_at hl 1 rfl) ?_
                                      refine lv_iconst (v := (1 : Int32)) hx hb dX9_plan_385 (by decide) ?_
                                      refine lv_isub hx hb dX9_plan_386 ?_
                                      refine lv_istore (lv' := [(12, .int (((1 : Int32) * a3) - (1 : Int32))), (8, .int v8_28), (7, .int ((1 : Int32) * a3)), (5, .int (1 : Int32)), (0, .ref h), (1, .int a1), (2, .int a2), (3, .int a3), (4, .int a4)]) hx hb dX9_plan_387 hl (by decide) rfl (fun ls hl => ?_)
                                      have hE_29 : ∀ (j_29 : Nat) (τ_29 : St) (hj_29 : j_29 ≤ ((1 : Int32) * a3).toNatClampNeg) (hI_29 : IR τ_29) (hf1_29 : τ_29 1 = σ 1) (hf2_29 : τ_29 2 = σ 2) (hcv_29 : CV τ_28 τ_29 (σ 2 0).toNatClampNeg ((1 : Int32) * a3).toNatClampNeg j_29) (hd_29 : j_29 = 0 ∨ ¬ τ_29 47 (j_29 - 1) = σ 2 0 - 1) (H : Heap) (locs : List Loc) (ls : Array Slot), s_X9_plan_c389 v8_28 (j_29, τ_29) = S_24 → va_P D vwCl (WM ca h ad τ_29) H → va_D A (WM ca h ad τ_29) → va_S A s.heap H locs → lv_has ls 13 [(12, .int (nI j_29 - (1 : Int32))), (8, .int v8_28), (7, .int ((1 : Int32) * a3)), (5, .int (1 : Int32)), (0, .ref h), (1, .int a1), (2, .int a2), (3, .int a3), (4, .int a4)] → W p l e ((headSpec wsX9_plan ({ frames := 5, cells := 0, slots := 0, locals := 131 })).room) s m ([.ref h, .int a1, .int a2, .int a3, .int a4] : List Value).toArray below meth c H locs 0 0 QQ (F0 m 424 ls []) := by
                                        intro j_29 τ_29 hj_29 hI_29 hf1_29 hf2_29 hcv_29 hd_29 H locs ls hB_24 hP hD hS hl
                                        have hB_24 : (if (nI j_29 - (1 : Int32)) < (0 : Int32) then (Sum.inr ((0 : Int32), v8_28, τ_29)) else (Sum.inr ((1 : Int32), v8_28, (put τ_29 47 ((nI j_29 - (1 : Int32)).toNatClampNeg) ((τ_29 47 ((nI j_29 - (1 : Int32)).toNatClampNeg)) + (1 : Int32)))))) = S_24 := hB_24
                                        refine lv_iload hx hb dX9_plan_424 (lv_at hl 0 rfl) ?_
                                        refine lv_if_lt (tgt := 433) hx hb dX9_plan_426 (by decide) (fun c_30 => ?_) (fun c_30 => ?_)
                                        · have hB_24 := (if_pos c_30).symm.trans hB_24
                                          refine lv_iconst (v := (0 : Int32)) hx hb dX9_plan_433 (by decide) ?_
                                          refine lv_istore (lv' := [(9, .int (0 : Int32)), (12, .int (nI j_29 - (1 : Int32))), (8, .int v8_28), (7, .int ((1 : Int32) * a3)), (5, .int (1 : Int32)), (0, .ref h), (1, .int a1), (2, .int a2), (3, .int a3), (4, .int a4)]) hx hb dX9_plan_434 hl (by decide) rfl (fun ls hl => ?_)
                                          refine lv_iload hx hb dX9_plan_436 (lv_at hl 0 rfl) ?_
                                          refine lv_if_eq (tgt := 452) hx hb dX9_plan_438 (by decide) (fun _ => ?_) (fun c_31 => absurd (by decide) c_31)
                                          refine lv_goto (tgt := 261) hx hb dX9_plan_452 (by decide) ?_
                                          subst hB_24
                                          exact ih (k_24 + 1) (0 : Int32) v8_28 τ_29 hI_29 hf1_29 hf2_29 (hcv_29.2.1) (ms_end hm_24 c_25 ht_24) _ _ _ hR hP hD hS (lv_sub hl [0, 2, 3, 4, 5, 6, 7, 8, 9] rfl)
                                        · have hB_24 := (if_neg c_30).symm.trans hB_24
                                          refine lv_iconst (v := (1 : Int32)) hx hb dX9_plan_429 (by decide) ?_
                                          refine lv_goto (tgt := 434) hx hb dX9_plan_430 (by decide) ?_
                                          refine lv_istore (lv' := [(9, .int (1 : Int32)), (12, .int (nI j_29 - (1 : Int32))), (8, .int v8_28), (7, .int ((1 : Int32) * a3)), (5, .int (1 : Int32)), (0, .ref h), (1, .int a1), (2, .int a2), (3, .int a3), (4, .int a4)]) hx hb dX9_plan_434 hl (by decide) rfl (fun ls hl => ?_)
                                          refine lv_iload hx hb dX9_plan_436 (lv_at hl 0 rfl) ?_
                                          refine lv_if_eq (tgt := 452) hx hb dX9_plan_438 (by decide) (fun c_32 => absurd c_32 (by decide)) (fun _ => ?_)
                                          refine lv_aload_n hx hb dX9_plan_441 rfl (lv_at hl 5 rfl) ?_
                                          refine va_get (D := D) (ci := 9) (v := .ref (ad 47)) (C := RX9) (T := TX9) (N := 51) hx hb hts hu9 hown hK hP 0 wm_0 rfl 47 (by decide) (hts (.fieldLink RX9 116 "GrazeBookModel" "trial" "[I") (List.mem_cons_of_mem _ mw_830)) (fun _ h9 => h9) rfl dX9_plan_442 ?_
                                          refine lv_iload hx hb dX9_plan_445 (lv_at hl 1 rfl) ?_
                                          refine lv_dup2_11 hx hb dX9_plan_447 rfl rfl ?_
                                          refine va_iald_k (k := ((nI j_29 - (1 : Int32)).toNatClampNeg)) (v := (τ_29 47 ((nI j_29 - (1 : Int32)).toNatClampNeg))) hx hb hK hP 36 0 wm_a47 rfl rfl rfl (jx_rng c_30 hj_29 (plc_ok (pl_ok (n := 1) (m := 4) (by decide) (not_lt0 c_8) (le_i (not_lt0 c_12) (by decide)) (not_lt0 c_15) c_18))) dX9_plan_448 ?_
                                          refine lv_iconst (v := (1 : Int32)) hx hb dX9_plan_449 (by decide) ?_
                                          refine lv_iadd hx hb dX9_plan_450 ?_
                                          refine va_iast_k (k := ((nI j_29 - (1 : Int32)).toNatClampNeg)) hx hb hK hP hD hS 36 0 wm_a47 rfl rfl (jx_rng c_30 hj_29 (plc_ok (pl_ok (n := 1) (m := 4) (by decide) (not_lt0 c_8) (le_i (not_lt0 c_12) (by decide)) (not_lt0 c_15) c_18))) dX9_plan_451 (fun H locs hP hD hS => ?_)
                                          rw [wm_s47] at hP hD
                                          refine lv_goto (tgt := 261) hx hb dX9_plan_452 (by decide) ?_
                                          subst hB_24
                                          exact ih (k_24 + 1) (1 : Int32) v8_28 (put τ_29 47 ((nI j_29 - (1 : Int32)).toNatClampNeg) ((τ_29 47 ((nI j_29 - (1 : Int32)).toNatClampNeg)) + (1 : Int32))) hI_29 hf1_29 hf2_29 ((cv_inc (x := ((1 : Int32) * a3)) (ir_2 hI) hcv_29 c_30 hj_29 (plc_ok (pl_ok (n := 1) (m := 4) (by decide) (not_lt0 c_8) (le_i (not_lt0 c_12) (by decide)) (not_lt0 c_15) c_18)) hd_29).1) (ms_next hm_24 c_25 ((cv_inc (x := ((1 : Int32) * a3)) (ir_2 hI) hcv_29 c_30 hj_29 (plc_ok (pl_ok (n := 1) (m := 4) (by decide) (not_lt0 c_8) (le_i (not_lt0 c_12) (by decide)) (not_lt0 c_15) c_18)) hd_29).2.trans (congrArg (· + 1) (vl_cast hf47_28)))) _ _ _ hR hP hD hS (lv_sub hl [0, 2, 3, 4, 5, 6, 7, 8, 9] rfl)
                                      have hL_29 : ∀ (n : Nat) (τ_29 : St) (hk_29 : n ≤ ((1 : Int32) * a3).toNatClampNeg) (hI_29 : IR τ_29) (hf1_29 : τ_29 1 = σ 1) (hf2_29 : τ_29 2 = σ 2) (hcv_29 : CV τ_28 τ_29 (σ 2 0).toNatClampNeg ((1 : Int32) * a3).toNatClampNeg n) (hd_29 : True) (H : Heap) (locs : List Loc) (ls : Array Slot), s_X9_plan_c389 v8_28 (iterDC s_X9_plan_l389 n τ_29) = S_24 → va_P D vwCl (WM ca h ad τ_29) H → va_D A (WM ca h ad τ_29) → va_S A s.heap H locs → lv_has ls 13 [(12, .int (nI n - (1 : Int32))), (8, .int v8_28), (7, .int ((1 : Int32) * a3)), (5, .int (1 : Int32)), (0, .ref h), (1, .int a1), (2, .int a2), (3, .int a3), (4, .int a4)] → W p l e ((headSpec wsX9_plan ({ frames := 5, cells := 0, slots := 0, locals := 131 })).room) s m ([.ref h, .int a1, .int a2, .int a3, .int a4] : List Value).toArray below meth c H locs 0 0 QQ (F0 m 389 ls []) := by
                                        intro n
                                        induction n with
                                        | zero =>
                                          intro τ_29 hk_29 hI_29 hf1_29 hf2_29 hcv_29 hd_29 H locs ls hB_24 hP hD hS hl
                                          refine lv_iload hx hb dX9_plan_389 (lv_at hl 0 rfl) ?_
                                          refine lv_if_lt (tgt := 424) hx hb dX9_plan_391 (by decide) (fun _ => ?_) (fun c9 => absurd (by decide) c9)
                                          exact hE_29 0 τ_29 (Nat.zero_le _) hI_29 hf1_29 hf2_29 hcv_29 (Or.inl rfl) _ _ _ hB_24 hP hD hS (lv_sub hl [0, 1, 2, 3, 4, 5, 6, 7, 8] rfl)
                                        | succ k_29 ih =>
                                          intro τ_29 hk_29 hI_29 hf1_29 hf2_29 hcv_29 hd_29 H locs ls hB_24 hP hD hS hl
                                          obtain ⟨S_29, hB_29⟩ : ∃ s9, s_X9_plan_l389 k_29 τ_29 = s9 := ⟨_, rfl⟩
                                          have hB_24 : s_X9_plan_c389 v8_28 (iterDC1 s_X9_plan_l389 k_29 τ_29 S_29) = S_24 := by rw [← hB_29]; exact hB_24
                                          have hB_29 : (if (τ_29 47 k_29) = ((τ_29 2 0) - (1 : Int32)) then (some (put τ_29 47 k_29 (0 : Int32))) else none) = S_29 := hB_29
                                          rw [nI_pred] at hl
                                          refine lv_iload hx hb dX9_plan_389 (lv_at hl 0 rfl) ?_
                                          refine lv_if_lt (tgt := 424) hx hb dX9_plan_391 (by decide) (fun c9 => absurd c9 (nI_pos (dn_lt hk_29))) (fun _ => ?_)
                                          refine lv_aload_n hx hb dX9_plan_394 rfl (lv_at hl 4 rfl) ?_
                                          refine va_get (D := D) (ci := 9) (v := .ref (ad 47)) (C := RX9) (T := TX9) (N := 51) hx hb hts hu9 hown hK hP 0 wm_0 rfl 47 (by decide) (hts (.fieldLink RX9 116 "GrazeBookModel" "trial" "[I") (List.mem_cons_of_mem _ mw_830)) (fun _ h9 => h9) rfl dX9_plan_395 ?_
                                          refine lv_iload hx hb dX9_plan_398 (lv_at hl 0 rfl) ?_
                                          refine va_iald_k (k := k_29) (v := (τ_29 47 k_29)) hx hb hK hP 36 0 wm_a47 rfl (ix_cld hk_29) rfl (ix_down (N := 8) hk_29 (plc_ok (pl_ok (n := 1) (m := 4) (by decide) (not_lt0 c_8) (le_i (not_lt0 c_12) (by decide)) (not_lt0 c_15) c_18)) (by decide) (by decide)) dX9_plan_400 ?_
                                          refine lv_aload_n hx hb dX9_plan_401 rfl (lv_at hl 4 rfl) ?_
                                          refine va_get (D := D) (ci := 9) (v := .int (τ_29 2 0)) (C := RX9) (T := TX9) (N := 51) hx hb hts hu9 hown hK hP 0 wm_0 rfl 2 (by decide) (hts (.fieldLink RX9 127 "GrazeBookModel" "pieces" "I") (List.mem_cons_of_mem _ mw_785)) (fun _ h9 => h9) rfl dX9_plan_402 ?_
                                          refine lv_iconst (v := (1 : Int32)) hx hb dX9_plan_405 (by decide) ?_
                                          refine lv_isub hx hb dX9_plan_406 ?_
                                          refine lv_icmp_ne (tgt := 424) hx hb dX9_plan_407 (by decide) (fun c_33 => ?_) (fun c_33 => ?_)
                                          · have hB_29 := (if_neg c_33).symm.trans hB_29
                                            subst hB_29
                                            rw [← nI_pred k_29] at hl
                                            exact hE_29 (k_29 + 1) τ_29 hk_29 hI_29 hf1_29 hf2_29 hcv_29 (Or.inr (by rw [← congrFun hf2_29 0]; exact c_33)) _ _ _ hB_24 hP hD hS (lv_sub hl [0, 1, 2, 3, 4, 5, 6, 7, 8] rfl)
                                          · have hB_29 := (if_pos c_33).symm.trans hB_29
                                            refine lv_aload_n hx hb dX9_plan_410 rfl (lv_at hl 4 rfl) ?_
                                            refine va_get (D := D) (ci := 9) (v := .ref (ad 47)) (C := RX9) (T := TX9) (N := 51) hx hb hts hu9 hown hK hP 0 wm_0 rfl 47 (by decide) (hts (.fieldLink RX9 116 "GrazeBookModel" "trial" "[I") (List.mem_cons_of_mem _ mw_830)) (fun _ h9 => h9) rfl dX9_plan_411 ?_
                                            refine lv_iload hx hb dX9_plan_414 (lv_at hl 0 rfl) ?_
                                            refine lv_iconst (v := (0 : Int32)) hx hb dX9_plan_416 (by decide) ?_
                                            refine va_iast_k (k := k_29) hx hb hK hP hD hS 36 0 wm_a47 rfl (ix_cld hk_29) (ix_down (N := 8) hk_29 (plc_ok (pl_ok (n := 1) (m := 4) (by decide) (not_lt0 c_8) (le_i (not_lt0 c_12) (by decide)) (not_lt0 c_15) c_18)) (by decide) (by decide)) dX9_plan_417 (fun H locs hP hD hS => ?_)
                                            rw [wm_s47] at hP hD
                                            refine lv_iinc (v := ((nI k_29) + (-1 : Int32))) (lv' := [(12, .int ((nI k_29) + (-1 : Int32))), (8, .int v8_28), (7, .int ((1 : Int32) * a3)), (5, .int (1 : Int32)), (0, .ref h), (1, .int a1), (2, .int a2), (3, .int a3), (4, .int a4)]) hx hb dX9_plan_418 hl (k := 0) rfl (by rw [show Int32.ofInt (-1) = (-1 : Int32) from by decide]) (by decide) rfl (fun ls hl => ?_)
                                            refine lv_goto (tgt := 389) hx hb dX9_plan_421 (by decide) ?_
                                            subst hB_29
                                            rw [m1_sub] at hl
                                            exact ih (put τ_29 47 k_29 (0 : Int32)) (Nat.le_of_succ_le hk_29) hI_29 hf1_29 hf2_29 (cv_next (p := σ 2 0) rfl (ir_2 hI).1 (hg_20 c_21) hcv_29 (by rw [← congrFun hf2_29 0]; exact c_33)) trivial _ _ _ hB_24 hP hD hS (lv_sub hl [0, 1, 2, 3, 4, 5, 6, 7, 8] rfl)
                                      rw [dn_eq (plc_ok (pl_ok (n := 1) (m := 4) (by decide) (not_lt0 c_8) (le_i (not_lt0 c_12) (by decide)) (not_lt0 c_15) c_18)).1] at hl
                                      exact hL_29 _ τ_28 (Nat.le_refl _) hI_28 hf1_28 hf2_28 (cv_start (okT_cast hf47_28 ht_24)) trivial _ _ _ hB_24 hP hD hS (lv_sub hl [0, 1, 2, 3, 4, 5, 6, 7, 8] rfl)
                                    refine lv_if_eq (tgt := 383) hx hb dX9_plan_334 (by decide) (fun c_34 => ?_) (fun c_34 => ?_)
                                    · have hB_24 := (if_pos c_34).symm.trans hB_24
                                      exact hJ_28 v8_24 τ_27 hI_27 hf47_27 hf1_27 hf2_27 _ _ _ hB_24 hP hD hS (lv_sub hl [2, 3, 4, 5, 6, 7, 8, 9] rfl)
                                    · have hB_24 := (if_neg c_34).symm.trans hB_24
                                      refine lv_iload hx hb dX9_plan_337 (lv_at hl 2 rfl) ?_
                                      refine lv_if_lt (tgt := 349) hx hb dX9_plan_339 (by decide) (fun c_35 => ?_) (fun c_35 => ?_)
                                      · have hB_24 := (if_pos c_35).symm.trans hB_24
                                        refine lv_iload hx hb dX9_plan_349 (lv_at hl 0 rfl) ?_
                                        refine lv_istore (lv' := [(8, .int y0_27), (11, .int y0_27), (10, .int v10_26), (7, .int ((1 : Int32) * a3)), (5, .int (1 : Int32)), (0, .ref h), (1, .int a1), (2, .int a2), (3, .int a3), (4, .int a4)]) hx hb dX9_plan_351 hl (by decide) rfl (fun ls hl => ?_)
                                        refine lv_iconst (v := (0 : Int32)) hx hb dX9_plan_353 (by decide) ?_
                                        refine lv_istore (lv' := [(12, .int (0 : Int32)), (8, .int y0_27), (11, .int y0_27), (10, .int v10_26), (7, .int ((1 : Int32) * a3)), (5, .int (1 : Int32)), (0, .ref h), (1, .int a1), (2, .int a2), (3, .int a3), (4, .int a4)]) hx hb dX9_plan_354 hl (by decide) rfl (fun ls hl => ?_)
                                        have hE_36 : ∀ (τ_36 : St) (hI_36 : IR τ_36) (hf47_36 : τ_36 47 = τ_24 47) (hf1_36 : τ_36 1 = σ 1) (hf2_36 : τ_36 2 = σ 2) (H : Heap) (locs : List Loc) (ls : Array Slot), s_X9_plan_c356 a3 y0_27 τ_36 = S_24 → va_P D vwCl (WM ca h ad τ_36) H → va_D A (WM ca h ad τ_36) → va_S A s.heap H locs → lv_has ls 13 [(8, .int y0_27), (7, .int ((1 : Int32) * a3)), (5, .int (1 : Int32)), (0, .ref h), (1, .int a1), (2, .int a2), (3, .int a3), (4, .int a4)] → W p l e ((headSpec wsX9_plan ({ frames := 5, cells := 0, slots := 0, locals := 131 })).room) s m ([.ref h, .int a1, .int a2, .int a3, .int a4] : List Value).toArray below meth c H locs 0 0 QQ (F0 m 383 ls []) := by
                                          intro τ_36 hI_36 hf47_36 hf1_36 hf2_36 H locs ls hB_24 hP hD hS hl
                                          have hB_24 : (s_X9_plan_j383 a3 y0_27 τ_36) = S_24 := hB_24
                                          exact hJ_28 y0_27 τ_36 hI_36 hf47_36 hf1_36 hf2_36 _ _ _ hB_24 hP hD hS (lv_sub hl [0, 1, 2, 3, 4, 5, 6, 7] rfl)
                                        have hL_36 : ∀ (n k_36 : Nat) (τ_36 : St) (hk_36 : lpk ((1 : Int32) * a3) k_36 n) (hI_36 : IR τ_36) (hf47_36 : τ_36 47 = τ_24 47) (hf1_36 : τ_36 1 = σ 1) (hf2_36 : τ_36 2 = σ 2) (H : Heap) (locs : List Loc) (ls : Array Slot), s_X9_plan_c356 a3 y0_27 (iter s_X9_plan_l356 n k_36 τ_36) = S_24 → va_P D vwCl (WM ca h ad τ_36) H → va_D A (WM ca h ad τ_36) → va_S A s.heap H locs → lv_has ls 13 [(12, .int (nI k_36)), (8, .int y0_27), (7, .int ((1 : Int32) * a3)), (5, .int (1 : Int32)), (0, .ref h), (1, .int a1), (2, .int a2), (3, .int a3), (4, .int a4)] → W p l e ((headSpec wsX9_plan ({ frames := 5, cells := 0, slots := 0, locals := 131 })).room) s m ([.ref h, .int a1, .int a2, .int a3, .int a4] : List Value).toArray below meth c H locs 0 0 QQ (F0 m 356 ls []) := by
                                          intro n
                                          induction n with
                                          | zero =>
                                            intro k_36 τ_36 hk_36 hI_36 hf47_36 hf1_36 hf2_36 H locs ls hB_24 hP hD hS hl
                                            refine lv_iload hx hb dX9_plan_356 (lv_at hl 0 rfl) ?_
                                            refine lv_iload hx hb dX9_plan_358 (lv_at hl 2 rfl) ?_
                                            refine lv_icmp_ge (tgt := 383) hx hb dX9_plan_360 (by decide) (fun _ => ?_) (fun c_37 => absurd (ge_end hk_36) c_37)
                                            exact hE_36 τ_36 hI_36 hf47_36 hf1_36 hf2_36 _ _ _ hB_24 hP hD hS (lv_sub hl [1, 2, 3, 4, 5, 6, 7, 8] rfl)
                                          | succ n ih =>
                                            intro k_36 τ_36 hk_36 hI_36 hf47_36 hf1_36 hf2_36 H locs ls hB_24 hP hD hS hl
                                            obtain ⟨S_36, hB_36⟩ : ∃ s9, s_X9_plan_l356 k_36 τ_36 = s9 := ⟨_, rfl⟩
                                            have hB_24 : s_X9_plan_c356 a3 y0_27 (iter s_X9_plan_l356 n (k_36 + 1) S_36) = S_24 := by rw [← hB_36]; exact hB_24
                                            have hB_36 : (put τ_36 48 k_36 (τ_36 47 k_36)) = S_36 := hB_36
                                            refine lv_iload hx hb dX9_plan_356 (lv_at hl 0 rfl) ?_
                                            refine lv_iload hx hb dX9_plan_358 (lv_at hl 2 rfl) ?_
                                            refine lv_icmp_ge (tgt := 383) hx hb dX9_plan_360 (by decide) (fun c_38 => absurd c_38 (ge_go hk_36)) (fun _ => ?_)
                                            refine lv_aload_n hx hb dX9_plan_363 rfl (lv_at hl 4 rfl) ?_
                                            refine va_get (D := D) (ci := 9) (v := .ref (ad 48)) (C := RX9) (T := TX9) (N := 51) hx hb hts hu9 hown hK hP 0 wm_0 rfl 48 (by decide) (hts (.fieldLink RX9 119 "GrazeBookModel" "best" "[I") (List.mem_cons_of_mem _ mw_831)) (fun _ h9 => h9) rfl dX9_plan_364 ?_
                                            refine lv_iload hx hb dX9_plan_367 (lv_at hl 0 rfl) ?_
                                            refine lv_aload_n hx hb dX9_plan_369 rfl (lv_at hl 4 rfl) ?_
                                            refine va_get (D := D) (ci := 9) (v := .ref (ad 47)) (C := RX9) (T := TX9) (N := 51) hx hb hts hu9 hown hK hP 0 wm_0 rfl 47 (by decide) (hts (.fieldLink RX9 116 "GrazeBookModel" "trial" "[I") (List.mem_cons_of_mem _ mw_830)) (fun _ h9 => h9) rfl dX9_plan_370 ?_
                                            refine lv_iload hx hb dX9_plan_373 (lv_at hl 0 rfl) ?_
                                            refine va_iald_k (k := k_36) (v := (τ_36 47 k_36)) hx hb hK hP 36 0 wm_a47 rfl (ix_cl hk_36) rfl (ix_loop (N := 8) hk_36 (plc_ok (pl_ok (n := 1) (m := 4) (by decide) (not_lt0 c_8) (le_i (not_lt0 c_12) (by decide)) (not_lt0 c_15) c_18)) (by decide) (by decide)) dX9_plan_375 ?_
                                            refine va_iast_k (k := k_36) hx hb hK hP hD hS 37 0 wm_a48 rfl (ix_cl hk_36) (ix_loop (N := 8) hk_36 (plc_ok (pl_ok (n := 1) (m := 4) (by decide) (not_lt0 c_8) (le_i (not_lt0 c_12) (by decide)) (not_lt0 c_15) c_18)) (by decide) (by decide)) dX9_plan_376 (fun H locs hP hD hS => ?_)
                                            rw [wm_s48] at hP hD
                                            refine lv_iinc (v := (nI (k_36 + 1))) (lv' := [(12, .int (nI (k_36 + 1))), (8, .int y0_27), (7, .int ((1 : Int32) * a3)), (5, .int (1 : Int32)), (0, .ref h), (1, .int a1), (2, .int a2), (3, .int a3), (4, .int a4)]) hx hb dX9_plan_377 hl (k := 0) rfl (by rw [show Int32.ofInt 1 = 1 from by decide]; exact nI_1 _) (by decide) rfl (fun ls hl => ?_)
                                            refine lv_goto (tgt := 356) hx hb dX9_plan_380 (by decide) ?_
                                            subst hB_36
                                            exact ih (k_36 + 1) (put τ_36 48 k_36 (τ_36 47 k_36)) (ge_next hk_36) hI_36 hf47_36 hf1_36 hf2_36 _ _ _ hB_24 hP hD hS (lv_sub hl [0, 1, 2, 3, 4, 5, 6, 7, 8] rfl)
                                        exact hL_36 _ 0 τ_27 ⟨rfl, by decide⟩ hI_27 hf47_27 hf1_27 hf2_27 _ _ _ hB_24 hP hD hS (lv_sub hl [0, 1, 4, 5, 6, 7, 8, 9, 10] rfl)
                                      · have hB_24 := (if_neg c_35).symm.trans hB_24
                                        refine lv_iload hx hb dX9_plan_342 (lv_at hl 0 rfl) ?_
                                        refine lv_iload hx hb dX9_plan_344 (lv_at hl 2 rfl) ?_
                                        refine lv_icmp_ge (tgt := 383) hx hb dX9_plan_346 (by decide) (fun c_39 => ?_) (fun c_39 => ?_)
                                        · have hB_24 := (if_pos c_39).symm.trans hB_24
                                          exact hJ_28 v8_24 τ_27 hI_27 hf47_27 hf1_27 hf2_27 _ _ _ hB_24 hP hD hS (lv_sub hl [2, 3, 4, 5, 6, 7, 8, 9] rfl)
                                        · have hB_24 := (if_neg c_39).symm.trans hB_24
                                          refine lv_iload hx hb dX9_plan_349 (lv_at hl 0 rfl) ?_
                                          refine lv_istore (lv' := [(8, .int y0_27), (11, .int y0_27), (10, .int v10_26), (7, .int ((1 : Int32) * a3)), (5, .int (1 : Int32)), (0, .ref h), (1, .int a1), (2, .int a2), (3, .int a3), (4, .int a4)]) hx hb dX9_plan_351 hl (by decide) rfl (fun ls hl => ?_)
                                          refine lv_iconst (v := (0 : Int32)) hx hb dX9_plan_353 (by decide) ?_
                                          refine lv_istore (lv' := [(12, .int (0 : Int32)), (8, .int y0_27), (11, .int y0_27), (10, .int v10_26), (7, .int ((1 : Int32) * a3)), (5, .int (1 : Int32)), (0, .ref h), (1, .int a1), (2, .int a2), (3, .int a3), (4, .int a4)]) hx hb dX9_plan_354 hl (by decide) rfl (fun ls hl => ?_)
                                          have hE_40 : ∀ (τ_40 : St) (hI_40 : IR τ_40) (hf47_40 : τ_40 47 = τ_24 47) (hf1_40 : τ_40 1 = σ 1) (hf2_40 : τ_40 2 = σ 2) (H : Heap) (locs : List Loc) (ls : Array Slot), s_X9_plan_c356_1 a3 y0_27 τ_40 = S_24 → va_P D vwCl (WM ca h ad τ_40) H → va_D A (WM ca h ad τ_40) → va_S A s.heap H locs → lv_has ls 13 [(8, .int y0_27), (7, .int ((1 : Int32) * a3)), (5, .int (1 : Int32)), (0, .ref h), (1, .int a1), (2, .int a2), (3, .int a3), (4, .int a4)] → W p l e ((headSpec wsX9_plan ({ frames := 5, cells := 0, slots := 0, locals := 131 })).room) s m ([.ref h, .int a1, .int a2, .int a3, .int a4] : List Value).toArray below meth c H locs 0 0 QQ (F0 m 383 ls []) := by
                                            intro τ_40 hI_40 hf47_40 hf1_40 hf2_40 H locs ls hB_24 hP hD hS hl
                                            have hB_24 : (s_X9_plan_j383 a3 y0_27 τ_40) = S_24 := hB_24
                                            exact hJ_28 y0_27 τ_40 hI_40 hf47_40 hf1_40 hf2_40 _ _ _ hB_24 hP hD hS (lv_sub hl [0, 1, 2, 3, 4, 5, 6, 7] rfl)
                                          have hL_40 : ∀ (n k_40 : Nat) (τ_40 : St) (hk_40 : lpk ((1 : Int32) * a3) k_40 n) (hI_40 : IR τ_40) (hf47_40 : τ_40 47 = τ_24 47) (hf1_40 : τ_40 1 = σ 1) (hf2_40 : τ_40 2 = σ 2) (H : Heap) (locs : List Loc) (ls : Array Slot), s_X9_plan_c356_1 a3 y0_27 (iter s_X9_plan_l356_1 n k_40 τ_40) = S_24 → va_P D vwCl (WM ca h ad τ_40) H → va_D A (WM ca h ad τ_40) → va_S A s.heap H locs → lv_has ls 13 [(12, .int (nI k_40)), (8, .int y0_27), (7, .int ((1 : Int32) * a3)), (5, .int (1 : Int32)), (0, .ref h), (1, .int a1), (2, .int a2), (3, .int a3), (4, .int a4)] → W p l e ((headSpec wsX9_plan ({ frames := 5, cells := 0, slots := 0, locals := 131 })).room) s m ([.ref h, .int a1, .int a2, .int a3, .int a4] : List Value).toArray below meth c H locs 0 0 QQ (F0 m 356 ls []) := by
                                            intro n
                                            induction n with
                                            | zero =>
                                              intro k_40 τ_40 hk_40 hI_40 hf47_40 hf1_40 hf2_40 H locs ls hB_24 hP hD hS hl
                                              refine lv_iload hx hb dX9_plan_356 (lv_at hl 0 rfl) ?_
                                              refine lv_iload hx hb dX9_plan_358 (lv_at hl 2 rfl) ?_
                                              refine lv_icmp_ge (tgt := 383) hx hb dX9_plan_360 (by decide) (fun _ => ?_) (fun c_41 => absurd (ge_end hk_40) c_41)
                                              exact hE_40 τ_40 hI_40 hf47_40 hf1_40 hf2_40 _ _ _ hB_24 hP hD hS (lv_sub hl [1, 2, 3, 4, 5, 6, 7, 8] rfl)
                                            | succ n ih =>
                                              intro k_40 τ_40 hk_40 hI_40 hf47_40 hf1_40 hf2_40 H locs ls hB_24 hP hD hS hl
                                              obtain ⟨S_40, hB_40⟩ : ∃ s9, s_X9_plan_l356_1 k_40 τ_40 = s9 := ⟨_, rfl⟩
                                              have hB_24 : s_X9_plan_c356_1 a3 y0_27 (iter s_X9_plan_l356_1 n (k_40 + 1) S_40) = S_24 := by rw [← hB_40]; exact hB_24
                                              have hB_40 : (put τ_40 48 k_40 (τ_40 47 k_40)) = S_40 := hB_40
                                              refine lv_iload hx hb dX9_plan_356 (lv_at hl 0 rfl) ?_
                                              refine lv_iload hx hb dX9_plan_358 (lv_at hl 2 rfl) ?_
                                              refine lv_icmp_ge (tgt := 383) hx hb dX9_plan_360 (by decide) (fun c_42 => absurd c_42 (ge_go hk_40)) (fun _ => ?_)
                                              refine lv_aload_n hx hb dX9_plan_363 rfl (lv_at hl 4 rfl) ?_
                                              refine va_get (D := D) (ci := 9) (v := .ref (ad 48)) (C := RX9) (T := TX9) (N := 51) hx hb hts hu9 hown hK hP 0 wm_0 rfl 48 (by decide) (hts (.fieldLink RX9 119 "GrazeBookModel" "best" "[I") (List.mem_cons_of_mem _ mw_831)) (fun _ h9 => h9) rfl dX9_plan_364 ?_
                                              refine lv_iload hx hb dX9_plan_367 (lv_at hl 0 rfl) ?_
                                              refine lv_aload_n hx hb dX9_plan_369 rfl (lv_at hl 4 rfl) ?_
                                              refine va_get (D := D) (ci := 9) (v := .ref (ad 47)) (C := RX9) (T := TX9) (N := 51) hx hb hts hu9 hown hK hP 0 wm_0 rfl 47 (by decide) (hts (.fieldLink RX9 116 "GrazeBookModel" "trial" "[I") (List.mem_cons_of_mem _ mw_830)) (fun _ h9 => h9) rfl dX9_plan_370 ?_
                                              refine lv_iload hx hb dX9_plan_373 (lv_at hl 0 rfl) ?_
                                              refine va_iald_k (k := k_40) (v := (τ_40 47 k_40)) hx hb hK hP 36 0 wm_a47 rfl (ix_cl hk_40) rfl (ix_loop (N := 8) hk_40 (plc_ok (pl_ok (n := 1) (m := 4) (by decide) (not_lt0 c_8) (le_i (not_lt0 c_12) (by decide)) (not_lt0 c_15) c_18)) (by decide) (by decide)) dX9_plan_375 ?_
                                              refine va_iast_k (k := k_40) hx hb hK hP hD hS 37 0 wm_a48 rfl (ix_cl hk_40) (ix_loop (N := 8) hk_40 (plc_ok (pl_ok (n := 1) (m := 4) (by decide) (not_lt0 c_8) (le_i (not_lt0 c_12) (by decide)) (not_lt0 c_15) c_18)) (by decide) (by decide)) dX9_plan_376 (fun H locs hP hD hS => ?_)
                                              rw [wm_s48] at hP hD
                                              refine lv_iinc (v := (nI (k_40 + 1))) (lv' := [(12, .int (nI (k_40 + 1))), (8, .int y0_27), (7, .int ((1 : Int32) * a3)), (5, .int (1 : Int32)), (0, .ref h), (1, .int a1), (2, .int a2), (3, .int a3), (4, .int a4)]) hx hb dX9_plan_377 hl (k := 0) rfl (by rw [show Int32.ofInt 1 = 1 from by decide]; exact nI_1 _) (by decide) rfl (fun ls hl => ?_)
                                              refine lv_goto (tgt := 356) hx hb dX9_plan_380 (by decide) ?_
                                              subst hB_40
                                              exact ih (k_40 + 1) (put τ_40 48 k_40 (τ_40 47 k_40)) (ge_next hk_40) hI_40 hf47_40 hf1_40 hf2_40 _ _ _ hB_24 hP hD hS (lv_sub hl [0, 1, 2, 3, 4, 5, 6, 7, 8] rfl)
                                          exact hL_40 _ 0 τ_27 ⟨rfl, by decide⟩ hI_27 hf47_27 hf1_27 hf2_27 _ _ _ hB_24 hP hD hS (lv_sub hl [0, 1, 4, 5, 6, 7, 8, 9, 10] rfl)
                                  refine lv_if_eq (tgt := 329) hx hb dX9_plan_312 (by decide) (fun c_43 => ?_) (fun c_43 => ?_)
                                  · have hB_24 := (if_pos c_43).symm.trans hB_24
                                    refine lv_iconst (v := (-1 : Int32)) hx hb dX9_plan_329 (by decide) ?_
                                    exact hJ_27 (-1 : Int32) τ_24 hI_24 rfl hf1_24 hf2_24 _ _ _ hB_24 hP hD hS (lv_sub hl [0, 1, 2, 3, 4, 5, 6, 7, 8] rfl)
                                  · have hB_24 := (if_neg c_43).symm.trans hB_24
                                    refine lv_aload_n hx hb dX9_plan_315 rfl (lv_at hl 4 rfl) ?_
                                    refine lv_iload_n hx hb dX9_plan_316 rfl (lv_at hl 5 rfl) ?_
                                    refine lv_iload_n hx hb dX9_plan_317 rfl (lv_at hl 6 rfl) ?_
                                    refine lv_iload hx hb dX9_plan_318 (lv_at hl 3 rfl) ?_
                                    refine lv_iload_n hx hb dX9_plan_320 rfl (lv_at hl 7 rfl) ?_
                                    refine lv_iload hx hb dX9_plan_321 (lv_at hl 8 rfl) ?_
                                    have hF := pw_free hD hS hA
                                    refine va_calli (va_runV (As := [.int a1, .int a2, .int (1 : Int32), .int a3, .int a4]) (rest := []) ⟨hx, hb, hml, hown, hts⟩ (k_X9_tries l D ca h ad τ_24 a1 a2 (1 : Int32) a3 a4 H.size hI_24 (ix_isIn c_2 (ir_6 hI)) (fun h => absurd h (by decide)) (pl_ok (n := 1) (m := 4) (by decide) (not_lt0 c_8) (le_i (not_lt0 c_12) (by decide)) (not_lt0 c_15) c_18) (pl_day (pl_ok (n := 1) (m := 4) (by decide) (not_lt0 c_8) (le_i (not_lt0 c_12) (by decide)) (not_lt0 c_15) c_18) (ir_1 hI) c_22 (congrFun hf1_24 0)) _ rfl) (cwV 5 hts gX9_plan_X9_tries rfl rfl rfl (by decide +kernel) ⟨Nat.le_of_ble_eq_true rfl, Nat.le_of_ble_eq_true rfl⟩) ⟨pw_blind, va_recv hK hP (ci := 9) (q0 := 0) rfl wm_0, pw_give hP hK hD⟩ rfl rfl hl.1 rfl (lv_room (Nat.le_of_ble_eq_true rfl)) dX9_plan_323 ⟨Nat.le_of_ble_eq_true rfl, Nat.le_of_ble_eq_true rfl⟩) hS (fun q _ h => hF q h) hF (fun r_44 u t H1 locs ht hvm hw hB hz1 hk1 hS => ?_)
                                    subst hw
                                    obtain ⟨hB, hI_45⟩ := hB
                                    obtain ⟨hP, hD⟩ := pw_back hF ht hB
                                    clear hB hk1 hz1 hF
                                    generalize H1 = H at hP hS ⊢
                                    refine lv_goto (tgt := 330) hx hb dX9_plan_326 (by decide) ?_
                                    exact hJ_27 ((s_X9_tries τ_24 a1 a2 (1 : Int32) a3 a4).1) ((s_X9_tries τ_24 a1 a2 (1 : Int32) a3 a4).2) hI_45 ((fr_s_X9_tries τ_24 a1 a2 (1 : Int32) a3 a4 (f := 47) (by decide) (by decide) (by decide) (by decide)).trans rfl) ((fr_s_X9_tries τ_24 a1 a2 (1 : Int32) a3 a4 (f := 1) (by decide) (by decide) (by decide) (by decide)).trans hf1_24) ((fr_s_X9_tries τ_24 a1 a2 (1 : Int32) a3 a4 (f := 2) (by decide) (by decide) (by decide) (by decide)).trans hf2_24) _ _ _ hB_24 hP hD hS (lv_sub hl [0, 1, 2, 3, 4, 5, 6, 7, 8] rfl)
                                have hL_26 : ∀ (n k_26 : Nat) (v10_26 : Int32) (hk_26 : lpk ((1 : Int32) * a3) k_26 n) (H : Heap) (locs : List Loc) (ls : Array Slot), s_X9_plan_c272 a1 a2 a3 a4 v8_24 τ_24 (iterC (s_X9_plan_l272 a4 τ_24) n k_26 v10_26) = S_24 → va_P D vwCl (WM ca h ad τ_24) H → va_D A (WM ca h ad τ_24) → va_S A s.heap H locs → lv_has ls 13 [(11, .int (nI k_26)), (10, .int v10_26), (8, .int v8_24), (7, .int ((1 : Int32) * a3)), (5, .int (1 : Int32)), (0, .ref h), (1, .int a1), (2, .int a2), (3, .int a3), (4, .int a4)] → W p l e ((headSpec wsX9_plan ({ frames := 5, cells := 0, slots := 0, locals := 131 })).room) s m ([.ref h, .int a1, .int a2, .int a3, .int a4] : List Value).toArray below meth c H locs 0 0 QQ (F0 m 272 ls []) := by
                                  intro n
                                  induction n with
                                  | zero =>
                                    intro k_26 v10_26 hk_26 H locs ls hB_24 hP hD hS hl
                                    refine lv_iload hx hb dX9_plan_272 (lv_at hl 0 rfl) ?_
                                    refine lv_iload hx hb dX9_plan_274 (lv_at hl 3 rfl) ?_
                                    refine lv_icmp_ge (tgt := 310) hx hb dX9_plan_276 (by decide) (fun _ => ?_) (fun c_46 => absurd (ge_end hk_26) c_46)
                                    exact hE_26 v10_26 _ _ _ hB_24 hP hD hS (lv_sub hl [1, 2, 3, 4, 5, 6, 7, 8, 9] rfl)
                                  | succ n ih =>
                                    intro k_26 v10_26 hk_26 H locs ls hB_24 hP hD hS hl
                                    obtain ⟨S_26, hB_26⟩ : ∃ s9, s_X9_plan_l272 a4 τ_24 k_26 v10_26 = s9 := ⟨_, rfl⟩
                                    have hB_24 : s_X9_plan_c272 a1 a2 a3 a4 v8_24 τ_24 (iterC1 (s_X9_plan_l272 a4 τ_24) n k_26 v10_26 S_26) = S_24 := by rw [← hB_26]; exact hB_24
                                    have hB_26 : (if v10_26 = (0 : Int32) then none else (some (s_X9_mayTake τ_24 ((nI k_26) / (1 : Int32)) (τ_24 47 k_26) a4))) = S_26 := hB_26
                                    refine lv_iload hx hb dX9_plan_272 (lv_at hl 0 rfl) ?_
                                    refine lv_iload hx hb dX9_plan_274 (lv_at hl 3 rfl) ?_
                                    refine lv_icmp_ge (tgt := 310) hx hb dX9_plan_276 (by decide) (fun c_47 => absurd c_47 (ge_go hk_26)) (fun _ => ?_)
                                    refine lv_iload hx hb dX9_plan_279 (lv_at hl 1 rfl) ?_
                                    refine lv_if_eq (tgt := 310) hx hb dX9_plan_281 (by decide) (fun c_48 => ?_) (fun c_48 => ?_)
                                    · have hB_26 := (if_pos c_48).symm.trans hB_26
                                      subst hB_26
                                      exact hE_26 v10_26 _ _ _ hB_24 hP hD hS (lv_sub hl [1, 2, 3, 4, 5, 6, 7, 8, 9] rfl)
                                    · have hB_26 := (if_neg c_48).symm.trans hB_26
                                      refine lv_aload_n hx hb dX9_plan_284 rfl (lv_at hl 5 rfl) ?_
                                      refine lv_iload hx hb dX9_plan_285 (lv_at hl 0 rfl) ?_
                                      refine lv_iload hx hb dX9_plan_287 (lv_at hl 4 rfl) ?_
                                      refine lv_idiv hx hb dX9_plan_289 (by decide) ?_
                                      refine lv_aload_n hx hb dX9_plan_290 rfl (lv_at hl 5 rfl) ?_
                                      refine va_get (D := D) (ci := 9) (v := .ref (ad 47)) (C := RX9) (T := TX9) (N := 51) hx hb hts hu9 hown hK hP 0 wm_0 rfl 47 (by decide) (hts (.fieldLink RX9 116 "GrazeBookModel" "trial" "[I") (List.mem_cons_of_mem _ mw_830)) (fun _ h9 => h9) rfl dX9_plan_291 ?_
                                      refine lv_iload hx hb dX9_plan_294 (lv_at hl 0 rfl) ?_
                                      refine va_iald_k (k := k_26) (v := (τ_24 47 k_26)) hx hb hK hP 36 0 wm_a47 rfl (ix_cl hk_26) rfl (ix_loop (N := 8) hk_26 (plc_ok (pl_ok (n := 1) (m := 4) (by decide) (not_lt0 c_8) (le_i (not_lt0 c_12) (by decide)) (not_lt0 c_15) c_18)) (by decide) (by decide)) dX9_plan_296 ?_
                                      refine lv_iload hx hb dX9_plan_297 (lv_at hl 9 rfl) ?_
                                      have hF := pw_free hD hS hA
                                      refine va_calli (va_runV (As := [.int ((nI k_26) / (1 : Int32)), .int (τ_24 47 k_26), .int a4]) (rest := []) ⟨hx, hb, hml, hown, hts⟩ (k_X9_mayTake l D ca h ad τ_24 ((nI k_26) / (1 : Int32)) (τ_24 47 k_26) a4 H.size hI_24 (tr_at ht_24 (ir_2 hI) (k_ltm hk_26)) _ rfl) (cwV 3 hts gX9_plan_X9_mayTake rfl rfl rfl (by decide +kernel) ⟨Nat.le_of_ble_eq_true rfl, Nat.le_of_ble_eq_true rfl⟩) ⟨pw_blind, va_recv hK hP (ci := 9) (q0 := 0) rfl wm_0, pw_give hP hK hD⟩ rfl rfl hl.1 rfl (lv_room (Nat.le_of_ble_eq_true rfl)) dX9_plan_299 ⟨Nat.le_of_ble_eq_true rfl, Nat.le_of_ble_eq_true rfl⟩) hS (fun q _ h => hF q h) hF (fun r_49 u t H1 locs ht hvm hw hB hz1 hk1 hS => ?_)
                                      subst hw
                                      obtain ⟨hP, hD⟩ := pw_back hF ht hB
                                      clear hB hk1 hz1 hF
                                      generalize H1 = H at hP hS ⊢
                                      refine lv_istore (lv' := [(10, .int (s_X9_mayTake τ_24 ((nI k_26) / (1 : Int32)) (τ_24 47 k_26) a4)), (11, .int (nI k_26)), (8, .int v8_24), (7, .int ((1 : Int32) * a3)), (5, .int (1 : Int32)), (0, .ref h), (1, .int a1), (2, .int a2), (3, .int a3), (4, .int a4)]) hx hb dX9_plan_302 hl (by decide) rfl (fun ls hl => ?_)
                                      refine lv_iinc (v := (nI (k_26 + 1))) (lv' := [(11, .int (nI (k_26 + 1))), (10, .int (s_X9_mayTake τ_24 ((nI k_26) / (1 : Int32)) (τ_24 47 k_26) a4)), (8, .int v8_24), (7, .int ((1 : Int32) * a3)), (5, .int (1 : Int32)), (0, .ref h), (1, .int a1), (2, .int a2), (3, .int a3), (4, .int a4)]) hx hb dX9_plan_304 hl (k := 1) rfl (by rw [show Int32.ofInt 1 = 1 from by decide]; exact nI_1 _) (by decide) rfl (fun ls hl => ?_)
                                      refine lv_goto (tgt := 272) hx hb dX9_plan_307 (by decide) ?_
                                      subst hB_26
                                      exact ih (k_26 + 1) (s_X9_mayTake τ_24 ((nI k_26) / (1 : Int32)) (τ_24 47 k_26) a4) (ge_next hk_26)  _ _ _ hB_24 hP hD hS (lv_sub hl [0, 1, 2, 3, 4, 5, 6, 7, 8, 9] rfl)
                                exact hL_26 _ 0 (1 : Int32) ⟨rfl, by decide⟩  _ _ _ hB_24 hP hD hS (lv_sub hl [0, 1, 3, 4, 5, 6, 7, 8, 9, 10] rfl)
                          exact hL_24 (1 + (σ 2 0).toNatClampNeg ^ ((1 : Int32) * a3).toNatClampNeg) 0 (1 : Int32) (-1 : Int32) τ_23 hI_23 hf1_23 hf2_23 (okT_zero hz_23 (hg_20 c_21)) ms_start _ _ _ hR hP hD hS (lv_sub hl [0, 1, 2, 3, 4, 5, 6, 7, 8] rfl)
                        have hL_23 : ∀ (n k_23 : Nat) (τ_23 : St) (hk_23 : lpk ((1 : Int32) * a3) k_23 n) (hI_23 : IR τ_23) (hf1_23 : τ_23 1 = σ 1) (hf2_23 : τ_23 2 = σ 2) (hz_23 : ∀ j : Nat, j < k_23 → τ_23 47 j = 0) (H : Heap) (locs : List Loc) (ls : Array Slot), s_X9_plan_c237 σ a1 a2 a3 a4 (iter s_X9_plan_l237 n k_23 τ_23) = R → va_P D vwCl (WM ca h ad τ_23) H → va_D A (WM ca h ad τ_23) → va_S A s.heap H locs → lv_has ls 13 [(9, .int (nI k_23)), (8, .int (-1 : Int32)), (7, .int ((1 : Int32) * a3)), (5, .int (1 : Int32)), (0, .ref h), (1, .int a1), (2, .int a2), (3, .int a3), (4, .int a4)] → W p l e ((headSpec wsX9_plan ({ frames := 5, cells := 0, slots := 0, locals := 131 })).room) s m ([.ref h, .int a1, .int a2, .int a3, .int a4] : List Value).toArray below meth c H locs 0 0 QQ (F0 m 237 ls []) := by
                          intro n
                          induction n with
                          | zero =>
                            intro k_23 τ_23 hk_23 hI_23 hf1_23 hf2_23 hz_23 H locs ls hR hP hD hS hl
                            refine lv_iload hx hb dX9_plan_237 (lv_at hl 0 rfl) ?_
                            refine lv_iload hx hb dX9_plan_239 (lv_at hl 2 rfl) ?_
                            refine lv_icmp_ge (tgt := 258) hx hb dX9_plan_241 (by decide) (fun _ => ?_) (fun c_50 => absurd (ge_end hk_23) c_50)
                            exact hE_23 τ_23 hI_23 hf1_23 hf2_23 (fun j hj => hz_23 j (Nat.lt_of_lt_of_le hj (k_le0m hk_23))) _ _ _ hR hP hD hS (lv_sub hl [1, 2, 3, 4, 5, 6, 7, 8] rfl)
                          | succ n ih =>
                            intro k_23 τ_23 hk_23 hI_23 hf1_23 hf2_23 hz_23 H locs ls hR hP hD hS hl
                            obtain ⟨S_23, hB_23⟩ : ∃ s9, s_X9_plan_l237 k_23 τ_23 = s9 := ⟨_, rfl⟩
                            have hR : s_X9_plan_c237 σ a1 a2 a3 a4 (iter s_X9_plan_l237 n (k_23 + 1) S_23) = R := by rw [← hB_23]; exact hR
                            have hB_23 : (put τ_23 47 k_23 (0 : Int32)) = S_23 := hB_23
                            refine lv_iload hx hb dX9_plan_237 (lv_at hl 0 rfl) ?_
                            refine lv_iload hx hb dX9_plan_239 (lv_at hl 2 rfl) ?_
                            refine lv_icmp_ge (tgt := 258) hx hb dX9_plan_241 (by decide) (fun c_51 => absurd c_51 (ge_go hk_23)) (fun _ => ?_)
                            refine lv_aload_n hx hb dX9_plan_244 rfl (lv_at hl 4 rfl) ?_
                            refine va_get (D := D) (ci := 9) (v := .ref (ad 47)) (C := RX9) (T := TX9) (N := 51) hx hb hts hu9 hown hK hP 0 wm_0 rfl 47 (by decide) (hts (.fieldLink RX9 116 "GrazeBookModel" "trial" "[I") (List.mem_cons_of_mem _ mw_830)) (fun _ h9 => h9) rfl dX9_plan_245 ?_
                            refine lv_iload hx hb dX9_plan_248 (lv_at hl 0 rfl) ?_
                            refine lv_iconst (v := (0 : Int32)) hx hb dX9_plan_250 (by decide) ?_
                            refine va_iast_k (k := k_23) hx hb hK hP hD hS 36 0 wm_a47 rfl (ix_cl hk_23) (ix_loop (N := 8) hk_23 (plc_ok (pl_ok (n := 1) (m := 4) (by decide) (not_lt0 c_8) (le_i (not_lt0 c_12) (by decide)) (not_lt0 c_15) c_18)) (by decide) (by decide)) dX9_plan_251 (fun H locs hP hD hS => ?_)
                            rw [wm_s47] at hP hD
                            refine lv_iinc (v := (nI (k_23 + 1))) (lv' := [(9, .int (nI (k_23 + 1))), (8, .int (-1 : Int32)), (7, .int ((1 : Int32) * a3)), (5, .int (1 : Int32)), (0, .ref h), (1, .int a1), (2, .int a2), (3, .int a3), (4, .int a4)]) hx hb dX9_plan_252 hl (k := 0) rfl (by rw [show Int32.ofInt 1 = 1 from by decide]; exact nI_1 _) (by decide) rfl (fun ls hl => ?_)
                            refine lv_goto (tgt := 237) hx hb dX9_plan_255 (by decide) ?_
                            subst hB_23
                            exact ih (k_23 + 1) (put τ_23 47 k_23 (0 : Int32)) (ge_next hk_23) hI_23 hf1_23 hf2_23 (z_next hz_23) _ _ _ hR hP hD hS (lv_sub hl [0, 1, 2, 3, 4, 5, 6, 7, 8] rfl)
                        exact hL_23 _ 0 σ ⟨rfl, by decide⟩ hI rfl rfl (fun j hj => absurd hj (Nat.not_lt_zero j)) _ _ _ hR hP hD hS (lv_sub hl [0, 1, 2, 4, 5, 6, 7, 8, 9] rfl)
                      · have hR := (if_neg c_22).symm.trans hR
                        refine lv_aload_n hx hb dX9_plan_218 rfl (lv_at hl 2 rfl) ?_
                        refine lv_bipush (v := (-6 : Int32)) hx hb dX9_plan_219 (by decide) ?_
                        have hF := pw_free hD hS hA
                        refine va_calli (va_runV (As := [.int (-6 : Int32)]) (rest := []) ⟨hx, hb, hml, hown, hts⟩ (k_X9_refuse l D ca h ad σ (-6 : Int32) H.size hI (by unfold vp_in; decide) _ rfl) (cwV 1 hts gX9_plan_X9_refuse rfl rfl rfl (by decide +kernel) ⟨Nat.le_of_ble_eq_true rfl, Nat.le_of_ble_eq_true rfl⟩) ⟨pw_blind, va_recv hK hP (ci := 9) (q0 := 0) rfl wm_0, pw_give hP hK hD⟩ rfl rfl hl.1 rfl (lv_room (Nat.le_of_ble_eq_true rfl)) dX9_plan_221 ⟨Nat.le_of_ble_eq_true rfl, Nat.le_of_ble_eq_true rfl⟩) hS (fun q _ h => hF q h) hF (fun r_52 u t H1 locs ht hvm hw hB hz1 hk1 hS => ?_)
                        subst hw
                        obtain ⟨hB, hI_53⟩ := hB
                        obtain ⟨hP, hD⟩ := pw_back hF ht hB
                        clear hB hk1 hz1 hF
                        generalize H1 = H at hP hS ⊢
                        have hI9 : IR ((s_X9_refuse σ (-6 : Int32)).2) := hI_53
                        subst hR
                        rw [hQ]
                        exact W.iret (v := ((s_X9_refuse σ (-6 : Int32)).1)) hx hb hr (fun t ht hW => ⟨⟨((s_X9_refuse σ (-6 : Int32)).1), (), rfl, rfl, ⟨by rw [ht]; exact hP, va_K.moved hW.alike hK, by rw [← hAe]; exact hD⟩, hI9⟩, hS.F ht⟩) hS.2.2 dX9_plan_224
                    · have hR := (if_pos c_21).symm.trans hR
                      refine lv_aload_n hx hb dX9_plan_196 rfl (lv_at hl 2 rfl) ?_
                      refine lv_bipush (v := (-3 : Int32)) hx hb dX9_plan_197 (by decide) ?_
                      have hF := pw_free hD hS hA
                      refine va_calli (va_runV (As := [.int (-3 : Int32)]) (rest := []) ⟨hx, hb, hml, hown, hts⟩ (k_X9_refuse l D ca h ad σ (-3 : Int32) H.size hI (by unfold vp_in; decide) _ rfl) (cwV 1 hts gX9_plan_X9_refuse rfl rfl rfl (by decide +kernel) ⟨Nat.le_of_ble_eq_true rfl, Nat.le_of_ble_eq_true rfl⟩) ⟨pw_blind, va_recv hK hP (ci := 9) (q0 := 0) rfl wm_0, pw_give hP hK hD⟩ rfl rfl hl.1 rfl (lv_room (Nat.le_of_ble_eq_true rfl)) dX9_plan_199 ⟨Nat.le_of_ble_eq_true rfl, Nat.le_of_ble_eq_true rfl⟩) hS (fun q _ h => hF q h) hF (fun r_54 u t H1 locs ht hvm hw hB hz1 hk1 hS => ?_)
                      subst hw
                      obtain ⟨hB, hI_55⟩ := hB
                      obtain ⟨hP, hD⟩ := pw_back hF ht hB
                      clear hB hk1 hz1 hF
                      generalize H1 = H at hP hS ⊢
                      have hI9 : IR ((s_X9_refuse σ (-3 : Int32)).2) := hI_55
                      subst hR
                      rw [hQ]
                      exact W.iret (v := ((s_X9_refuse σ (-3 : Int32)).1)) hx hb hr (fun t ht hW => ⟨⟨((s_X9_refuse σ (-3 : Int32)).1), (), rfl, rfl, ⟨by rw [ht]; exact hP, va_K.moved hW.alike hK, by rw [← hAe]; exact hD⟩, hI9⟩, hS.F ht⟩) hS.2.2 dX9_plan_202
                  have hL_20 : ∀ (n k_20 : Nat) (v6_20 : Int32) (hk_20 : lpk a3 k_20 n) (hg_20 : ¬ v6_20 = (0 : Int32) → k_20 = 0 ∨ 0 < (σ 2 0).toNatClampNeg) (H : Heap) (locs : List Loc) (ls : Array Slot), s_X9_plan_c124 σ a1 a2 a3 a4 (iterC (s_X9_plan_l124 σ a4) n k_20 v6_20) = R → va_P D vwCl (WM ca h ad σ) H → va_D A (WM ca h ad σ) → va_S A s.heap H locs → lv_has ls 13 [(7, .int (nI k_20)), (6, .int v6_20), (5, .int (1 : Int32)), (0, .ref h), (1, .int a1), (2, .int a2), (3, .int a3), (4, .int a4)] → W p l e ((headSpec wsX9_plan ({ frames := 5, cells := 0, slots := 0, locals := 131 })).room) s m ([.ref h, .int a1, .int a2, .int a3, .int a4] : List Value).toArray below meth c H locs 0 0 QQ (F0 m 124 ls []) := by
                    intro n
                    induction n with
                    | zero =>
                      intro k_20 v6_20 hk_20 hg_20 H locs ls hR hP hD hS hl
                      refine lv_iload hx hb dX9_plan_124 (lv_at hl 0 rfl) ?_
                      refine lv_iload_n hx hb dX9_plan_126 rfl (lv_at hl 6 rfl) ?_
                      refine lv_icmp_ge (tgt := 191) hx hb dX9_plan_127 (by decide) (fun _ => ?_) (fun c_56 => absurd (ge_end hk_20) c_56)
                      exact hE_20 v6_20 (fun h9 => by first | exact absurd (show v6_20 = (0 : Int32) by assumption) h9 | exact (hg_20 h9).resolve_left (ne_k0 hk_20 (not_lt0 c_8))) _ _ _ hR hP hD hS (lv_sub hl [1, 2, 3, 4, 5, 6, 7] rfl)
                    | succ n ih =>
                      intro k_20 v6_20 hk_20 hg_20 H locs ls hR hP hD hS hl
                      obtain ⟨S_20, hB_20⟩ : ∃ s9, s_X9_plan_l124 σ a4 k_20 v6_20 = s9 := ⟨_, rfl⟩
                      have hR : s_X9_plan_c124 σ a1 a2 a3 a4 (iterC1 (s_X9_plan_l124 σ a4) n k_20 v6_20 S_20) = R := by rw [← hB_20]; exact hR
                      have hB_20 : (if v6_20 = (0 : Int32) then none else (s_X9_plan_c141 (iter (s_X9_plan_l141 σ a4 k_20) ((σ 2 0).toNatClampNeg - 0) 0 (0 : Int32)))) = S_20 := hB_20
                      refine lv_iload hx hb dX9_plan_124 (lv_at hl 0 rfl) ?_
                      refine lv_iload_n hx hb dX9_plan_126 rfl (lv_at hl 6 rfl) ?_
                      refine lv_icmp_ge (tgt := 191) hx hb dX9_plan_127 (by decide) (fun c_57 => absurd c_57 (ge_go hk_20)) (fun _ => ?_)
                      refine lv_iload hx hb dX9_plan_130 (lv_at hl 1 rfl) ?_
                      refine lv_if_eq (tgt := 191) hx hb dX9_plan_132 (by decide) (fun c_58 => ?_) (fun c_58 => ?_)
                      · have hB_20 := (if_pos c_58).symm.trans hB_20
                        subst hB_20
                        exact hE_20 v6_20 (fun h9 => by first | exact absurd (show v6_20 = (0 : Int32) by assumption) h9 | exact (hg_20 h9).resolve_left (ne_k0 hk_20 (not_lt0 c_8))) _ _ _ hR hP hD hS (lv_sub hl [1, 2, 3, 4, 5, 6, 7] rfl)
                      · have hB_20 := (if_neg c_58).symm.trans hB_20
                        refine lv_iconst (v := (0 : Int32)) hx hb dX9_plan_135 (by decide) ?_
                        refine lv_istore (lv' := [(8, .int (0 : Int32)), (7, .int (nI k_20)), (6, .int v6_20), (5, .int (1 : Int32)), (0, .ref h), (1, .int a1), (2, .int a2), (3, .int a3), (4, .int a4)]) hx hb dX9_plan_136 hl (by decide) rfl (fun ls hl => ?_)
                        refine lv_iconst (v := (0 : Int32)) hx hb dX9_plan_138 (by decide) ?_
                        refine lv_istore (lv' := [(9, .int (0 : Int32)), (8, .int (0 : Int32)), (7, .int (nI k_20)), (6, .int v6_20), (5, .int (1 : Int32)), (0, .ref h), (1, .int a1), (2, .int a2), (3, .int a3), (4, .int a4)]) hx hb dX9_plan_139 hl (by decide) rfl (fun ls hl => ?_)
                        have hE_59 : ∀ (v8_59 : Int32) (hq_59 : ¬ v8_59 = (0 : Int32) → 0 < (σ 2 0).toNatClampNeg) (H : Heap) (locs : List Loc) (ls : Array Slot), s_X9_plan_c141 v8_59 = S_20 → va_P D vwCl (WM ca h ad σ) H → va_D A (WM ca h ad σ) → va_S A s.heap H locs → lv_has ls 13 [(8, .int v8_59), (7, .int (nI k_20)), (5, .int (1 : Int32)), (0, .ref h), (1, .int a1), (2, .int a2), (3, .int a3), (4, .int a4)] → W p l e ((headSpec wsX9_plan ({ frames := 5, cells := 0, slots := 0, locals := 131 })).room) s m ([.ref h, .int a1, .int a2, .int a3, .int a4] : List Value).toArray below meth c H locs 0 0 QQ (F0 m 181 ls []) := by
                          intro v8_59 hq_59 H locs ls hB_20 hP hD hS hl
                          have hB_20 : (some v8_59) = S_20 := hB_20
                          refine lv_iload hx hb dX9_plan_181 (lv_at hl 0 rfl) ?_
                          refine lv_istore (lv' := [(6, .int v8_59), (8, .int v8_59), (7, .int (nI k_20)), (5, .int (1 : Int32)), (0, .ref h), (1, .int a1), (2, .int a2), (3, .int a3), (4, .int a4)]) hx hb dX9_plan_183 hl (by decide) rfl (fun ls hl => ?_)
                          refine lv_iinc (v := (nI (k_20 + 1))) (lv' := [(7, .int (nI (k_20 + 1))), (6, .int v8_59), (8, .int v8_59), (5, .int (1 : Int32)), (0, .ref h), (1, .int a1), (2, .int a2), (3, .int a3), (4, .int a4)]) hx hb dX9_plan_185 hl (k := 2) rfl (by rw [show Int32.ofInt 1 = 1 from by decide]; exact nI_1 _) (by decide) rfl (fun ls hl => ?_)
                          refine lv_goto (tgt := 124) hx hb dX9_plan_188 (by decide) ?_
                          subst hB_20
                          exact ih (k_20 + 1) v8_59 (ge_next hk_20) (fun h => Or.inr (hq_59 h)) _ _ _ hR hP hD hS (lv_sub hl [0, 1, 3, 4, 5, 6, 7, 8] rfl)
                        have hL_59 : ∀ (n k_59 : Nat) (v8_59 : Int32) (hk_59 : lpk (σ 2 0) k_59 n) (hq_59 : ¬ v8_59 = (0 : Int32) → 0 < (σ 2 0).toNatClampNeg) (H : Heap) (locs : List Loc) (ls : Array Slot), s_X9_plan_c141 (iter (s_X9_plan_l141 σ a4 k_20) n k_59 v8_59) = S_20 → va_P D vwCl (WM ca h ad σ) H → va_D A (WM ca h ad σ) → va_S A s.heap H locs → lv_has ls 13 [(9, .int (nI k_59)), (8, .int v8_59), (7, .int (nI k_20)), (5, .int (1 : Int32)), (0, .ref h), (1, .int a1), (2, .int a2), (3, .int a3), (4, .int a4)] → W p l e ((headSpec wsX9_plan ({ frames := 5, cells := 0, slots := 0, locals := 131 })).room) s m ([.ref h, .int a1, .int a2, .int a3, .int a4] : List Value).toArray below meth c H locs 0 0 QQ (F0 m 141 ls []) := by
                          intro n
                          induction n with
                          | zero =>
                            intro k_59 v8_59 hk_59 hq_59 H locs ls hB_20 hP hD hS hl
                            refine lv_iload hx hb dX9_plan_141 (lv_at hl 0 rfl) ?_
                            refine lv_aload_n hx hb dX9_plan_143 rfl (lv_at hl 4 rfl) ?_
                            refine va_get (D := D) (ci := 9) (v := .int (σ 2 0)) (C := RX9) (T := TX9) (N := 51) hx hb hts hu9 hown hK hP 0 wm_0 rfl 2 (by decide) (hts (.fieldLink RX9 127 "GrazeBookModel" "pieces" "I") (List.mem_cons_of_mem _ mw_785)) (fun _ h9 => h9) rfl dX9_plan_144 ?_
                            refine lv_icmp_ge (tgt := 181) hx hb dX9_plan_147 (by decide) (fun _ => ?_) (fun c_60 => absurd (ge_end hk_59) c_60)
                            exact hE_59 v8_59 hq_59 _ _ _ hB_20 hP hD hS (lv_sub hl [1, 2, 3, 4, 5, 6, 7, 8] rfl)
                          | succ n ih =>
                            intro k_59 v8_59 hk_59 hq_59 H locs ls hB_20 hP hD hS hl
                            obtain ⟨S_59, hB_59⟩ : ∃ s9, s_X9_plan_l141 σ a4 k_20 k_59 v8_59 = s9 := ⟨_, rfl⟩
                            have hB_20 : s_X9_plan_c141 (iter (s_X9_plan_l141 σ a4 k_20) n (k_59 + 1) S_59) = S_20 := by rw [← hB_59]; exact hB_20
                            have hB_59 : (if v8_59 = (0 : Int32) then (if (s_X9_mayTake σ (nI k_20) (nI k_59) a4) = (0 : Int32) then (0 : Int32) else (1 : Int32)) else (1 : Int32)) = S_59 := hB_59
                            refine lv_iload hx hb dX9_plan_141 (lv_at hl 0 rfl) ?_
                            refine lv_aload_n hx hb dX9_plan_143 rfl (lv_at hl 4 rfl) ?_
                            refine va_get (D := D) (ci := 9) (v := .int (σ 2 0)) (C := RX9) (T := TX9) (N := 51) hx hb hts hu9 hown hK hP 0 wm_0 rfl 2 (by decide) (hts (.fieldLink RX9 127 "GrazeBookModel" "pieces" "I") (List.mem_cons_of_mem _ mw_785)) (fun _ h9 => h9) rfl dX9_plan_144 ?_
                            refine lv_icmp_ge (tgt := 181) hx hb dX9_plan_147 (by decide) (fun c_61 => absurd c_61 (ge_go hk_59)) (fun _ => ?_)
                            refine lv_iload hx hb dX9_plan_150 (lv_at hl 1 rfl) ?_
                            refine lv_if_ne (tgt := 168) hx hb dX9_plan_152 (by decide) (fun c_62 => ?_) (fun c_62 => ?_)
                            · have hB_59 := (if_neg c_62).symm.trans hB_59
                              refine lv_iconst (v := (1 : Int32)) hx hb dX9_plan_168 (by decide) ?_
                              refine lv_goto (tgt := 173) hx hb dX9_plan_169 (by decide) ?_
                              refine lv_istore (lv' := [(8, .int (1 : Int32)), (9, .int (nI k_59)), (7, .int (nI k_20)), (5, .int (1 : Int32)), (0, .ref h), (1, .int a1), (2, .int a2), (3, .int a3), (4, .int a4)]) hx hb dX9_plan_173 hl (by decide) rfl (fun ls hl => ?_)
                              refine lv_iinc (v := (nI (k_59 + 1))) (lv' := [(9, .int (nI (k_59 + 1))), (8, .int (1 : Int32)), (7, .int (nI k_20)), (5, .int (1 : Int32)), (0, .ref h), (1, .int a1), (2, .int a2), (3, .int a3), (4, .int a4)]) hx hb dX9_plan_175 hl (k := 1) rfl (by rw [show Int32.ofInt 1 = 1 from by decide]; exact nI_1 _) (by decide) rfl (fun ls hl => ?_)
                              refine lv_goto (tgt := 141) hx hb dX9_plan_178 (by decide) ?_
                              subst hB_59
                              exact ih (k_59 + 1) (1 : Int32) (ge_next hk_59) (fun _ => Nat.lt_of_le_of_lt (Nat.zero_le _) (k_ltm hk_59)) _ _ _ hB_20 hP hD hS (lv_sub hl [0, 1, 2, 3, 4, 5, 6, 7, 8] rfl)
                            · have hB_59 := (if_pos c_62).symm.trans hB_59
                              refine lv_aload_n hx hb dX9_plan_155 rfl (lv_at hl 4 rfl) ?_
                              refine lv_iload hx hb dX9_plan_156 (lv_at hl 2 rfl) ?_
                              refine lv_iload hx hb dX9_plan_158 (lv_at hl 0 rfl) ?_
                              refine lv_iload hx hb dX9_plan_160 (lv_at hl 8 rfl) ?_
                              have hF := pw_free hD hS hA
                              refine va_calli (va_runV (As := [.int (nI k_20), .int (nI k_59), .int a4]) (rest := []) ⟨hx, hb, hml, hown, hts⟩ (k_X9_mayTake l D ca h ad σ (nI k_20) (nI k_59) a4 H.size hI (ix_loop (N := 6) hk_59 (ir_2 hI) (by decide) (by decide)) _ rfl) (cwV 3 hts gX9_plan_X9_mayTake rfl rfl rfl (by decide +kernel) ⟨Nat.le_of_ble_eq_true rfl, Nat.le_of_ble_eq_true rfl⟩) ⟨pw_blind, va_recv hK hP (ci := 9) (q0 := 0) rfl wm_0, pw_give hP hK hD⟩ rfl rfl hl.1 rfl (lv_room (Nat.le_of_ble_eq_true rfl)) dX9_plan_162 ⟨Nat.le_of_ble_eq_true rfl, Nat.le_of_ble_eq_true rfl⟩) hS (fun q _ h => hF q h) hF (fun r_63 u t H1 locs ht hvm hw hB hz1 hk1 hS => ?_)
                              subst hw
                              obtain ⟨hP, hD⟩ := pw_back hF ht hB
                              clear hB hk1 hz1 hF
                              generalize H1 = H at hP hS ⊢
                              refine lv_if_eq (tgt := 172) hx hb dX9_plan_165 (by decide) (fun c_64 => ?_) (fun c_64 => ?_)
                              · have hB_59 := (if_pos c_64).symm.trans hB_59
                                refine lv_iconst (v := (0 : Int32)) hx hb dX9_plan_172 (by decide) ?_
                                refine lv_istore (lv' := [(8, .int (0 : Int32)), (9, .int (nI k_59)), (7, .int (nI k_20)), (5, .int (1 : Int32)), (0, .ref h), (1, .int a1), (2, .int a2), (3, .int a3), (4, .int a4)]) hx hb dX9_plan_173 hl (by decide) rfl (fun ls hl => ?_)
                                refine lv_iinc (v := (nI (k_59 + 1))) (lv' := [(9, .int (nI (k_59 + 1))), (8, .int (0 : Int32)), (7, .int (nI k_20)), (5, .int (1 : Int32)), (0, .ref h), (1, .int a1), (2, .int a2), (3, .int a3), (4, .int a4)]) hx hb dX9_plan_175 hl (k := 1) rfl (by rw [show Int32.ofInt 1 = 1 from by decide]; exact nI_1 _) (by decide) rfl (fun ls hl => ?_)
                                refine lv_goto (tgt := 141) hx hb dX9_plan_178 (by decide) ?_
                                subst hB_59
                                exact ih (k_59 + 1) (0 : Int32) (ge_next hk_59) (fun _ => Nat.lt_of_le_of_lt (Nat.zero_le _) (k_ltm hk_59)) _ _ _ hB_20 hP hD hS (lv_sub hl [0, 1, 2, 3, 4, 5, 6, 7, 8] rfl)
                              · have hB_59 := (if_neg c_64).symm.trans hB_59
                                refine lv_iconst (v := (1 : Int32)) hx hb dX9_plan_168 (by decide) ?_
                                refine lv_goto (tgt := 173) hx hb dX9_plan_169 (by decide) ?_
                                refine lv_istore (lv' := [(8, .int (1 : Int32)), (9, .int (nI k_59)), (7, .int (nI k_20)), (5, .int (1 : Int32)), (0, .ref h), (1, .int a1), (2, .int a2), (3, .int a3), (4, .int a4)]) hx hb dX9_plan_173 hl (by decide) rfl (fun ls hl => ?_)
                                refine lv_iinc (v := (nI (k_59 + 1))) (lv' := [(9, .int (nI (k_59 + 1))), (8, .int (1 : Int32)), (7, .int (nI k_20)), (5, .int (1 : Int32)), (0, .ref h), (1, .int a1), (2, .int a2), (3, .int a3), (4, .int a4)]) hx hb dX9_plan_175 hl (k := 1) rfl (by rw [show Int32.ofInt 1 = 1 from by decide]; exact nI_1 _) (by decide) rfl (fun ls hl => ?_)
                                refine lv_goto (tgt := 141) hx hb dX9_plan_178 (by decide) ?_
                                subst hB_59
                                exact ih (k_59 + 1) (1 : Int32) (ge_next hk_59) (fun _ => Nat.lt_of_le_of_lt (Nat.zero_le _) (k_ltm hk_59)) _ _ _ hB_20 hP hD hS (lv_sub hl [0, 1, 2, 3, 4, 5, 6, 7, 8] rfl)
                        exact hL_59 _ 0 (0 : Int32) ⟨rfl, by decide⟩ (fun h => absurd rfl h) _ _ _ hB_20 hP hD hS (lv_sub hl [0, 1, 2, 4, 5, 6, 7, 8, 9] rfl)
                  exact hL_20 _ 0 y0_19 ⟨rfl, by decide⟩ (fun _ => Or.inl rfl) _ _ _ hR hP hD hS (lv_sub hl [0, 1, 2, 3, 4, 5, 6, 7] rfl)
                refine lv_if_ne (tgt := 118) hx hb dX9_plan_96 (by decide) (fun c_65 => ?_) (fun c_65 => ?_)
                · have hR := (if_neg c_65).symm.trans hR
                  refine lv_iconst (v := (0 : Int32)) hx hb dX9_plan_118 (by decide) ?_
                  exact hJ_19 (0 : Int32) _ _ _ hR hP hD hS (lv_sub hl [0, 1, 2, 3, 4, 5] rfl)
                · have hR := (if_pos c_65).symm.trans hR
                  refine lv_iload hx hb dX9_plan_99 (lv_at hl 0 rfl) ?_
                  refine lv_iconst (v := (1 : Int32)) hx hb dX9_plan_101 (by decide) ?_
                  refine lv_icmp_eq (tgt := 114) hx hb dX9_plan_102 (by decide) (fun _ => ?_) (fun c_66 => absurd (by decide) c_66)
                  refine lv_iconst (v := (1 : Int32)) hx hb dX9_plan_114 (by decide) ?_
                  refine lv_goto (tgt := 119) hx hb dX9_plan_115 (by decide) ?_
                  exact hJ_19 (1 : Int32) _ _ _ hR hP hD hS (lv_sub hl [0, 1, 2, 3, 4, 5] rfl)
              · have hR := (if_neg c_18).symm.trans hR
                refine lv_aload_n hx hb dX9_plan_83 rfl (lv_at hl 1 rfl) ?_
                refine lv_bipush (v := (-2 : Int32)) hx hb dX9_plan_84 (by decide) ?_
                have hF := pw_free hD hS hA
                refine va_calli (va_runV (As := [.int (-2 : Int32)]) (rest := []) ⟨hx, hb, hml, hown, hts⟩ (k_X9_refuse l D ca h ad σ (-2 : Int32) H.size hI (by unfold vp_in; decide) _ rfl) (cwV 1 hts gX9_plan_X9_refuse rfl rfl rfl (by decide +kernel) ⟨Nat.le_of_ble_eq_true rfl, Nat.le_of_ble_eq_true rfl⟩) ⟨pw_blind, va_recv hK hP (ci := 9) (q0 := 0) rfl wm_0, pw_give hP hK hD⟩ rfl rfl hl.1 rfl (lv_room (Nat.le_of_ble_eq_true rfl)) dX9_plan_86 ⟨Nat.le_of_ble_eq_true rfl, Nat.le_of_ble_eq_true rfl⟩) hS (fun q _ h => hF q h) hF (fun r_67 u t H1 locs ht hvm hw hB hz1 hk1 hS => ?_)
                subst hw
                obtain ⟨hB, hI_68⟩ := hB
                obtain ⟨hP, hD⟩ := pw_back hF ht hB
                clear hB hk1 hz1 hF
                generalize H1 = H at hP hS ⊢
                have hI9 : IR ((s_X9_refuse σ (-2 : Int32)).2) := hI_68
                subst hR
                rw [hQ]
                exact W.iret (v := ((s_X9_refuse σ (-2 : Int32)).1)) hx hb hr (fun t ht hW => ⟨⟨((s_X9_refuse σ (-2 : Int32)).1), (), rfl, rfl, ⟨by rw [ht]; exact hP, va_K.moved hW.alike hK, by rw [← hAe]; exact hD⟩, hI9⟩, hS.F ht⟩) hS.2.2 dX9_plan_89
      · have hR := (if_pos c_6).symm.trans hR
        refine lv_aload_n hx hb dX9_plan_32 rfl (lv_at hl 0 rfl) ?_
        refine lv_iconst (v := (-1 : Int32)) hx hb dX9_plan_33 (by decide) ?_
        have hF := pw_free hD hS hA
        refine va_calli (va_runV (As := [.int (-1 : Int32)]) (rest := []) ⟨hx, hb, hml, hown, hts⟩ (k_X9_refuse l D ca h ad σ (-1 : Int32) H.size hI (by unfold vp_in; decide) _ rfl) (cwV 1 hts gX9_plan_X9_refuse rfl rfl rfl (by decide +kernel) ⟨Nat.le_of_ble_eq_true rfl, Nat.le_of_ble_eq_true rfl⟩) ⟨pw_blind, va_recv hK hP (ci := 9) (q0 := 0) rfl wm_0, pw_give hP hK hD⟩ rfl rfl hl.1 rfl (lv_room (Nat.le_of_ble_eq_true rfl)) dX9_plan_34 ⟨Nat.le_of_ble_eq_true rfl, Nat.le_of_ble_eq_true rfl⟩) hS (fun q _ h => hF q h) hF (fun r_69 u t H1 locs ht hvm hw hB hz1 hk1 hS => ?_)
        subst hw
        obtain ⟨hB, hI_70⟩ := hB
        obtain ⟨hP, hD⟩ := pw_back hF ht hB
        clear hB hk1 hz1 hF
        generalize H1 = H at hP hS ⊢
        have hI9 : IR ((s_X9_refuse σ (-1 : Int32)).2) := hI_70
        subst hR
        rw [hQ]
        exact W.iret (v := ((s_X9_refuse σ (-1 : Int32)).1)) hx hb hr (fun t ht hW => ⟨⟨((s_X9_refuse σ (-1 : Int32)).1), (), rfl, rfl, ⟨by rw [ht]; exact hP, va_K.moved hW.alike hK, by rw [← hAe]; exact hD⟩, hI9⟩, hS.F ht⟩) hS.2.2 dX9_plan_37
    · have hR := (if_neg c_5).symm.trans hR
      refine lv_iload_n hx hb dX9_plan_16 rfl (lv_at hl 2 rfl) ?_
      refine lv_aload_n hx hb dX9_plan_17 rfl (lv_at hl 0 rfl) ?_
      refine va_get (D := D) (ci := 9) (v := .int (σ 6 0)) (C := RX9) (T := TX9) (N := 51) hx hb hts hu9 hown hK hP 0 wm_0 rfl 6 (by decide) (hts (.fieldLink RX9 164 "GrazeBookModel" "herds" "I") (List.mem_cons_of_mem _ mw_789)) (fun _ h9 => h9) rfl dX9_plan_18 ?_
      have hF := pw_free (pn_D (A := A)) hS hA
      refine va_calli (va_runS (As := [.int a2, .int (σ 6 0)]) (rest := []) ⟨hx, hb, hml, hown, hts⟩ (k_X9_isIn l D ca a2 (σ 6 0) H.size _ rfl) (va_cwS 2 hts gX9_plan_X9_isIn rfl rfl rfl (by decide +kernel) ⟨Nat.le_of_ble_eq_true rfl, Nat.le_of_ble_eq_true rfl⟩) ⟨pw_blind, pw_give pn_P hK (pn_D (A := A))⟩ rfl rfl hl.1 rfl (lv_room (Nat.le_of_ble_eq_true rfl)) dX9_plan_21 ⟨Nat.le_of_ble_eq_true rfl, Nat.le_of_ble_eq_true rfl⟩) hS (fun q _ h => hF q h) hF (fun r_71 u t H1 locs ht hvm hw hB hz1 hk1 hS => ?_)
      subst hw
      have hP := pn_back hP hk1
      clear hB hk1 hz1 hF
      generalize H1 = H at hP hS ⊢
      refine lv_if_eq (tgt := 32) hx hb dX9_plan_24 (by decide) (fun c_72 => ?_) (fun c_72 => ?_)
      · have hR := (if_pos c_72).symm.trans hR
        refine lv_aload_n hx hb dX9_plan_32 rfl (lv_at hl 0 rfl) ?_
        refine lv_iconst (v := (-1 : Int32)) hx hb dX9_plan_33 (by decide) ?_
        have hF := pw_free hD hS hA
        refine va_calli (va_runV (As := [.int (-1 : Int32)]) (rest := []) ⟨hx, hb, hml, hown, hts⟩ (k_X9_refuse l D ca h ad σ (-1 : Int32) H.size hI (by unfold vp_in; decide) _ rfl) (cwV 1 hts gX9_plan_X9_refuse rfl rfl rfl (by decide +kernel) ⟨Nat.le_of_ble_eq_true rfl, Nat.le_of_ble_eq_true rfl⟩) ⟨pw_blind, va_recv hK hP (ci := 9) (q0 := 0) rfl wm_0, pw_give hP hK hD⟩ rfl rfl hl.1 rfl (lv_room (Nat.le_of_ble_eq_true rfl)) dX9_plan_34 ⟨Nat.le_of_ble_eq_true rfl, Nat.le_of_ble_eq_true rfl⟩) hS (fun q _ h => hF q h) hF (fun r_73 u t H1 locs ht hvm hw hB hz1 hk1 hS => ?_)
        subst hw
        obtain ⟨hB, hI_74⟩ := hB
        obtain ⟨hP, hD⟩ := pw_back hF ht hB
        clear hB hk1 hz1 hF
        generalize H1 = H at hP hS ⊢
        have hI9 : IR ((s_X9_refuse σ (-1 : Int32)).2) := hI_74
        subst hR
        rw [hQ]
        exact W.iret (v := ((s_X9_refuse σ (-1 : Int32)).1)) hx hb hr (fun t ht hW => ⟨⟨((s_X9_refuse σ (-1 : Int32)).1), (), rfl, rfl, ⟨by rw [ht]; exact hP, va_K.moved hW.alike hK, by rw [← hAe]; exact hD⟩, hI9⟩, hS.F ht⟩) hS.2.2 dX9_plan_37
      · have hR := (if_neg c_72).symm.trans hR
        refine lv_iload_n hx hb dX9_plan_27 rfl (lv_at hl 1 rfl) ?_
        refine lv_iload_n hx hb dX9_plan_28 rfl (lv_at hl 2 rfl) ?_
        refine lv_icmp_ne (tgt := 38) hx hb dX9_plan_29 (by decide) (fun c_75 => ?_) (fun c_75 => ?_)
        · have hR := (if_neg c_75).symm.trans hR
          refine lv_iload_n hx hb dX9_plan_38 rfl (lv_at hl 2 rfl) ?_
          refine lv_iconst (v := (-1 : Int32)) hx hb dX9_plan_39 (by decide) ?_
          refine lv_icmp_ne (tgt := 47) hx hb dX9_plan_40 (by decide) (fun _ => ?_) (fun c_76 => absurd c_76 c_5)
          refine lv_iconst (v := (2 : Int32)) hx hb dX9_plan_47 (by decide) ?_
          refine lv_istore (lv' := [(5, .int (2 : Int32)), (0, .ref h), (1, .int a1), (2, .int a2), (3, .int a3), (4, .int a4)]) hx hb dX9_plan_48 hl (by decide) rfl (fun ls hl => ?_)
          refine lv_iload_n hx hb dX9_plan_50 rfl (lv_at hl 4 rfl) ?_
          refine lv_iconst (v := (1 : Int32)) hx hb dX9_plan_51 (by decide) ?_
          refine lv_icmp_lt (tgt := 83) hx hb dX9_plan_52 (by decide) (fun c_77 => ?_) (fun c_77 => ?_)
          · have hR := (if_pos c_77).symm.trans hR
            refine lv_aload_n hx hb dX9_plan_83 rfl (lv_at hl 1 rfl) ?_
            refine lv_bipush (v := (-2 : Int32)) hx hb dX9_plan_84 (by decide) ?_
            have hF := pw_free hD hS hA
            refine va_calli (va_runV (As := [.int (-2 : Int32)]) (rest := []) ⟨hx, hb, hml, hown, hts⟩ (k_X9_refuse l D ca h ad σ (-2 : Int32) H.size hI (by unfold vp_in; decide) _ rfl) (cwV 1 hts gX9_plan_X9_refuse rfl rfl rfl (by decide +kernel) ⟨Nat.le_of_ble_eq_true rfl, Nat.le_of_ble_eq_true rfl⟩) ⟨pw_blind, va_recv hK hP (ci := 9) (q0 := 0) rfl wm_0, pw_give hP hK hD⟩ rfl rfl hl.1 rfl (lv_room (Nat.le_of_ble_eq_true rfl)) dX9_plan_86 ⟨Nat.le_of_ble_eq_true rfl, Nat.le_of_ble_eq_true rfl⟩) hS (fun q _ h => hF q h) hF (fun r_78 u t H1 locs ht hvm hw hB hz1 hk1 hS => ?_)
            subst hw
            obtain ⟨hB, hI_79⟩ := hB
            obtain ⟨hP, hD⟩ := pw_back hF ht hB
            clear hB hk1 hz1 hF
            generalize H1 = H at hP hS ⊢
            have hI9 : IR ((s_X9_refuse σ (-2 : Int32)).2) := hI_79
            subst hR
            rw [hQ]
            exact W.iret (v := ((s_X9_refuse σ (-2 : Int32)).1)) hx hb hr (fun t ht hW => ⟨⟨((s_X9_refuse σ (-2 : Int32)).1), (), rfl, rfl, ⟨by rw [ht]; exact hP, va_K.moved hW.alike hK, by rw [← hAe]; exact hD⟩, hI9⟩, hS.F ht⟩) hS.2.2 dX9_plan_89
          · have hR := (if_neg c_77).symm.trans hR
            refine lv_iload_n hx hb dX9_plan_55 rfl (lv_at hl 4 rfl) ?_
            refine lv_iload hx hb dX9_plan_56 (lv_at hl 0 rfl) ?_
            refine lv_iconst (v := (1 : Int32)) hx hb dX9_plan_58 (by decide) ?_
            refine lv_icmp_ne (tgt := 66) hx hb dX9_plan_59 (by decide) (fun _ => ?_) (fun c_80 => absurd c_80 (by decide))
            refine lv_iconst (v := (2 : Int32)) hx hb dX9_plan_66 (by decide) ?_
            refine lv_icmp_gt (tgt := 83) hx hb dX9_plan_67 (by decide) (fun c_81 => ?_) (fun c_81 => ?_)
            · have hR := (if_pos c_81).symm.trans hR
              refine lv_aload_n hx hb dX9_plan_83 rfl (lv_at hl 1 rfl) ?_
              refine lv_bipush (v := (-2 : Int32)) hx hb dX9_plan_84 (by decide) ?_
              have hF := pw_free hD hS hA
              refine va_calli (va_runV (As := [.int (-2 : Int32)]) (rest := []) ⟨hx, hb, hml, hown, hts⟩ (k_X9_refuse l D ca h ad σ (-2 : Int32) H.size hI (by unfold vp_in; decide) _ rfl) (cwV 1 hts gX9_plan_X9_refuse rfl rfl rfl (by decide +kernel) ⟨Nat.le_of_ble_eq_true rfl, Nat.le_of_ble_eq_true rfl⟩) ⟨pw_blind, va_recv hK hP (ci := 9) (q0 := 0) rfl wm_0, pw_give hP hK hD⟩ rfl rfl hl.1 rfl (lv_room (Nat.le_of_ble_eq_true rfl)) dX9_plan_86 ⟨Nat.le_of_ble_eq_true rfl, Nat.le_of_ble_eq_true rfl⟩) hS (fun q _ h => hF q h) hF (fun r_82 u t H1 locs ht hvm hw hB hz1 hk1 hS => ?_)
              subst hw
              obtain ⟨hB, hI_83⟩ := hB
              obtain ⟨hP, hD⟩ := pw_back hF ht hB
              clear hB hk1 hz1 hF
              generalize H1 = H at hP hS ⊢
              have hI9 : IR ((s_X9_refuse σ (-2 : Int32)).2) := hI_83
              subst hR
              rw [hQ]
              exact W.iret (v := ((s_X9_refuse σ (-2 : Int32)).1)) hx hb hr (fun t ht hW => ⟨⟨((s_X9_refuse σ (-2 : Int32)).1), (), rfl, rfl, ⟨by rw [ht]; exact hP, va_K.moved hW.alike hK, by rw [← hAe]; exact hD⟩, hI9⟩, hS.F ht⟩) hS.2.2 dX9_plan_89
            · have hR := (if_neg c_81).symm.trans hR
              refine lv_iload hx hb dX9_plan_70 (lv_at hl 5 rfl) ?_
              refine lv_iconst (v := (1 : Int32)) hx hb dX9_plan_72 (by decide) ?_
              refine lv_icmp_lt (tgt := 83) hx hb dX9_plan_73 (by decide) (fun c_84 => ?_) (fun c_84 => ?_)
              · have hR := (if_pos c_84).symm.trans hR
                refine lv_aload_n hx hb dX9_plan_83 rfl (lv_at hl 1 rfl) ?_
                refine lv_bipush (v := (-2 : Int32)) hx hb dX9_plan_84 (by decide) ?_
                have hF := pw_free hD hS hA
                refine va_calli (va_runV (As := [.int (-2 : Int32)]) (rest := []) ⟨hx, hb, hml, hown, hts⟩ (k_X9_refuse l D ca h ad σ (-2 : Int32) H.size hI (by unfold vp_in; decide) _ rfl) (cwV 1 hts gX9_plan_X9_refuse rfl rfl rfl (by decide +kernel) ⟨Nat.le_of_ble_eq_true rfl, Nat.le_of_ble_eq_true rfl⟩) ⟨pw_blind, va_recv hK hP (ci := 9) (q0 := 0) rfl wm_0, pw_give hP hK hD⟩ rfl rfl hl.1 rfl (lv_room (Nat.le_of_ble_eq_true rfl)) dX9_plan_86 ⟨Nat.le_of_ble_eq_true rfl, Nat.le_of_ble_eq_true rfl⟩) hS (fun q _ h => hF q h) hF (fun r_85 u t H1 locs ht hvm hw hB hz1 hk1 hS => ?_)
                subst hw
                obtain ⟨hB, hI_86⟩ := hB
                obtain ⟨hP, hD⟩ := pw_back hF ht hB
                clear hB hk1 hz1 hF
                generalize H1 = H at hP hS ⊢
                have hI9 : IR ((s_X9_refuse σ (-2 : Int32)).2) := hI_86
                subst hR
                rw [hQ]
                exact W.iret (v := ((s_X9_refuse σ (-2 : Int32)).1)) hx hb hr (fun t ht hW => ⟨⟨((s_X9_refuse σ (-2 : Int32)).1), (), rfl, rfl, ⟨by rw [ht]; exact hP, va_K.moved hW.alike hK, by rw [← hAe]; exact hD⟩, hI9⟩, hS.F ht⟩) hS.2.2 dX9_plan_89
              · have hR := (if_neg c_84).symm.trans hR
                refine lv_iload hx hb dX9_plan_76 (lv_at hl 5 rfl) ?_
                refine lv_bipush (v := (10 : Int32)) hx hb dX9_plan_78 (by decide) ?_
                refine lv_icmp_le (tgt := 90) hx hb dX9_plan_80 (by decide) (fun c_87 => ?_) (fun c_87 => ?_)
                · have hR := (if_pos c_87).symm.trans hR
                  refine lv_aload_n hx hb dX9_plan_90 rfl (lv_at hl 1 rfl) ?_
                  refine va_get (D := D) (ci := 9) (v := .ref (ad 41)) (C := RX9) (T := TX9) (N := 51) hx hb hts hu9 hown hK hP 0 wm_0 rfl 41 (by decide) (hts (.fieldLink RX9 98 "GrazeBookModel" "hState" "[I") (List.mem_cons_of_mem _ mw_824)) (fun _ h9 => h9) rfl dX9_plan_91 ?_
                  refine lv_iload_n hx hb dX9_plan_94 rfl (lv_at hl 2 rfl) ?_
                  refine va_iald_k (k := (a1.toNatClampNeg)) (v := (σ 41 (a1.toNatClampNeg))) hx hb hK hP 30 0 wm_a41 rfl rfl rfl (ix_isIn c_2 (ir_6 hI)) dX9_plan_95 ?_
                  have hJ_88 : ∀ (y0_88 : Int32) (H : Heap) (locs : List Loc) (ls : Array Slot), s_X9_plan_j119_1 σ a1 a2 a3 a4 y0_88 = R → va_P D vwCl (WM ca h ad σ) H → va_D A (WM ca h ad σ) → va_S A s.heap H locs → lv_has ls 13 [(5, .int (2 : Int32)), (0, .ref h), (1, .int a1), (2, .int a2), (3, .int a3), (4, .int a4)] → W p l e ((headSpec wsX9_plan ({ frames := 5, cells := 0, slots := 0, locals := 131 })).room) s m ([.ref h, .int a1, .int a2, .int a3, .int a4] : List Value).toArray below meth c H locs 0 0 QQ (F0 m 119 ls [.int y0_88]) := by
                    intro y0_88 H locs ls hR hP hD hS hl
                    have hR : (s_X9_plan_c124_1 σ a1 a2 a3 a4 (iterC (s_X9_plan_l124_1 σ a4) (a3.toNatClampNeg - 0) 0 y0_88)) = R := hR
                    refine lv_istore (lv' := [(6, .int y0_88), (5, .int (2 : Int32)), (0, .ref h), (1, .int a1), (2, .int a2), (3, .int a3), (4, .int a4)]) hx hb dX9_plan_119 hl (by decide) rfl (fun ls hl => ?_)
                    refine lv_iconst (v := (0 : Int32)) hx hb dX9_plan_121 (by decide) ?_
                    refine lv_istore (lv' := [(7, .int (0 : Int32)), (6, .int y0_88), (5, .int (2 : Int32)), (0, .ref h), (1, .int a1), (2, .int a2), (3, .int a3), (4, .int a4)]) hx hb dX9_plan_122 hl (by decide) rfl (fun ls hl => ?_)
                    have hE_89 : ∀ (v6_89 : Int32) (hg_89 : ¬ v6_89 = (0 : Int32) → 0 < (σ 2 0).toNatClampNeg) (H : Heap) (locs : List Loc) (ls : Array Slot), s_X9_plan_c124_1 σ a1 a2 a3 a4 v6_89 = R → va_P D vwCl (WM ca h ad σ) H → va_D A (WM ca h ad σ) → va_S A s.heap H locs → lv_has ls 13 [(6, .int v6_89), (5, .int (2 : Int32)), (0, .ref h), (1, .int a1), (2, .int a2), (3, .int a3), (4, .int a4)] → W p l e ((headSpec wsX9_plan ({ frames := 5, cells := 0, slots := 0, locals := 131 })).room) s m ([.ref h, .int a1, .int a2, .int a3, .int a4] : List Value).toArray below meth c H locs 0 0 QQ (F0 m 191 ls []) := by
                      intro v6_89 hg_89 H locs ls hR hP hD hS hl
                      have hR : (if v6_89 = (0 : Int32) then (((s_X9_refuse σ (-3 : Int32)).1), (s_X9_refuse σ (-3 : Int32)).2) else (if ((σ 1 0) + (a3 * a4)) ≤ (720 : Int32) then (s_X9_plan_c237_1 σ a1 a2 a3 a4 (iter s_X9_plan_l237_1 (((2 : Int32) * a3).toNatClampNeg - 0) 0 σ)) else (((s_X9_refuse σ (-6 : Int32)).1), (s_X9_refuse σ (-6 : Int32)).2))) = R := hR
                      refine lv_iload hx hb dX9_plan_191 (lv_at hl 0 rfl) ?_
                      refine lv_if_ne (tgt := 203) hx hb dX9_plan_193 (by decide) (fun c_90 => ?_) (fun c_90 => ?_)
                      · have hR := (if_neg c_90).symm.trans hR
                        refine lv_aload_n hx hb dX9_plan_203 rfl (lv_at hl 2 rfl) ?_
                        refine va_get (D := D) (ci := 9) (v := .int (σ 1 0)) (C := RX9) (T := TX9) (N := 51) hx hb hts hu9 hown hK hP 0 wm_0 rfl 1 (by decide) (hts (.fieldLink RX9 141 "GrazeBookModel" "day" "I") (List.mem_cons_of_mem _ mw_784)) (fun _ h9 => h9) rfl dX9_plan_204 ?_
                        refine lv_iload_n hx hb dX9_plan_207 rfl (lv_at hl 5 rfl) ?_
                        refine lv_iload hx hb dX9_plan_208 (lv_at hl 6 rfl) ?_
                        refine lv_imul hx hb dX9_plan_210 ?_
                        refine lv_iadd hx hb dX9_plan_211 ?_
                        refine lv_sipush (v := (720 : Int32)) hx hb dX9_plan_212 (by decide) ?_
                        refine lv_icmp_le (tgt := 225) hx hb dX9_plan_215 (by decide) (fun c_91 => ?_) (fun c_91 => ?_)
                        · have hR := (if_pos c_91).symm.trans hR
                          refine lv_iload hx hb dX9_plan_225 (lv_at hl 1 rfl) ?_
                          refine lv_iload_n hx hb dX9_plan_227 rfl (lv_at hl 5 rfl) ?_
                          refine lv_imul hx hb dX9_plan_228 ?_
                          refine lv_istore (lv' := [(7, .int ((2 : Int32) * a3)), (6, .int v6_89), (5, .int (2 : Int32)), (0, .ref h), (1, .int a1), (2, .int a2), (3, .int a3), (4, .int a4)]) hx hb dX9_plan_229 hl (by decide) rfl (fun ls hl => ?_)
                          refine lv_iconst (v := (-1 : Int32)) hx hb dX9_plan_231 (by decide) ?_
                          refine lv_istore (lv' := [(8, .int (-1 : Int32)), (7, .int ((2 : Int32) * a3)), (6, .int v6_89), (5, .int (2 : Int32)), (0, .ref h), (1, .int a1), (2, .int a2), (3, .int a3), (4, .int a4)]) hx hb dX9_plan_232 hl (by decide) rfl (fun ls hl => ?_)
                          refine lv_iconst (v := (0 : Int32)) hx hb dX9_plan_234 (by decide) ?_
                          refine lv_istore (lv' := [(9, .int (0 : Int32)), (8, .int (-1 : Int32)), (7, .int ((2 : Int32) * a3)), (6, .int v6_89), (5, .int (2 : Int32)), (0, .ref h), (1, .int a1), (2, .int a2), (3, .int a3), (4, .int a4)]) hx hb dX9_plan_235 hl (by decide) rfl (fun ls hl => ?_)
                          have hE_92 : ∀ (τ_92 : St) (hI_92 : IR τ_92) (hf1_92 : τ_92 1 = σ 1) (hf2_92 : τ_92 2 = σ 2) (hz_92 : ∀ j : Nat, j < ((2 : Int32) * a3).toNatClampNeg → τ_92 47 j = 0) (H : Heap) (locs : List Loc) (ls : Array Slot), s_X9_plan_c237_1 σ a1 a2 a3 a4 τ_92 = R → va_P D vwCl (WM ca h ad τ_92) H → va_D A (WM ca h ad τ_92) → va_S A s.heap H locs → lv_has ls 13 [(8, .int (-1 : Int32)), (7, .int ((2 : Int32) * a3)), (5, .int (2 : Int32)), (0, .ref h), (1, .int a1), (2, .int a2), (3, .int a3), (4, .int a4)] → W p l e ((headSpec wsX9_plan ({ frames := 5, cells := 0, slots := 0, locals := 131 })).room) s m ([.ref h, .int a1, .int a2, .int a3, .int a4] : List Value).toArray below meth c H locs 0 0 QQ (F0 m 258 ls []) := by
                            intro τ_92 hI_92 hf1_92 hf2_92 hz_92 H locs ls hR hP hD hS hl
                            have hR : (s_X9_plan_c261r_1 (iterR (s_X9_plan_l261_1 a1 a2 a3 a4) (1 + (σ 2 0).toNatClampNeg ^ ((2 : Int32) * a3).toNatClampNeg) 0 ((1 : Int32), (-1 : Int32), τ_92))) = R := hR
                            refine lv_iconst (v := (1 : Int32)) hx hb dX9_plan_258 (by decide) ?_
                            refine lv_istore (lv' := [(9, .int (1 : Int32)), (8, .int (-1 : Int32)), (7, .int ((2 : Int32) * a3)), (5, .int (2 : Int32)), (0, .ref h), (1, .int a1), (2, .int a2), (3, .int a3), (4, .int a4)]) hx hb dX9_plan_259 hl (by decide) rfl (fun ls hl => ?_)
                            have hL_93 : ∀ (n k_93 : Nat) (v9_93 : Int32) (v8_93 : Int32) (τ_93 : St) (hI_93 : IR τ_93) (hf1_93 : τ_93 1 = σ 1) (hf2_93 : τ_93 2 = σ 2) (ht_93 : okT τ_93 (σ 2 0).toNatClampNeg ((2 : Int32) * a3).toNatClampNeg) (hm_93 : MS v9_93 τ_93 (σ 2 0).toNatClampNeg ((2 : Int32) * a3).toNatClampNeg n) (H : Heap) (locs : List Loc) (ls : Array Slot), s_X9_plan_c261r_1 (iterR (s_X9_plan_l261_1 a1 a2 a3 a4) n k_93 (v9_93, v8_93, τ_93)) = R → va_P D vwCl (WM ca h ad τ_93) H → va_D A (WM ca h ad τ_93) → va_S A s.heap H locs → lv_has ls 13 [(9, .int v9_93), (8, .int v8_93), (7, .int ((2 : Int32) * a3)), (5, .int (2 : Int32)), (0, .ref h), (1, .int a1), (2, .int a2), (3, .int a3), (4, .int a4)] → W p l e ((headSpec wsX9_plan ({ frames := 5, cells := 0, slots := 0, locals := 131 })).room) s m ([.ref h, .int a1, .int a2, .int a3, .int a4] : List Value).toArray below meth c H locs 0 0 QQ (F0 m 261 ls []) := by
                              intro n
                              induction n with
                              | zero =>
                                intro k_93 v9_93 v8_93 τ_93 hI_93 hf1_93 hf2_93 ht_93 hm_93 H locs ls hR hP hD hS hl
                                exact absurd trivial (fun _ => ms_zero hm_93 ht_93)
                              | succ n ih =>
                                intro k_93 v9_93 v8_93 τ_93 hI_93 hf1_93 hf2_93 ht_93 hm_93 H locs ls hR hP hD hS hl
                                obtain ⟨S_93, hB_93⟩ : ∃ s9, s_X9_plan_l261_1 a1 a2 a3 a4 k_93 (v9_93, v8_93, τ_93) = s9 := ⟨_, rfl⟩
                                have hR : s_X9_plan_c261r_1 (iterR1 (s_X9_plan_l261_1 a1 a2 a3 a4) n k_93 S_93) = R := by rw [← hB_93]; exact hR
                                have hB_93 : (if v9_93 = (0 : Int32) then (Sum.inl (v8_93, (put (put τ_93 49 0 a3) 50 0 (2 : Int32)))) else (s_X9_plan_c272_1 a1 a2 a3 a4 v8_93 τ_93 (iterC (s_X9_plan_l272_1 a4 τ_93) (((2 : Int32) * a3).toNatClampNeg - 0) 0 (1 : Int32)))) = S_93 := hB_93
                                refine lv_iload hx hb dX9_plan_261 (lv_at hl 0 rfl) ?_
                                refine lv_if_eq (tgt := 455) hx hb dX9_plan_263 (by decide) (fun c_94 => ?_) (fun c_94 => ?_)
                                · have hB_93 := (if_pos c_94).symm.trans hB_93
                                  refine lv_aload_n hx hb dX9_plan_455 rfl (lv_at hl 4 rfl) ?_
                                  refine lv_iload_n hx hb dX9_plan_456 rfl (lv_at hl 7 rfl) ?_
                                  refine va_put (D := D) (ci := 9) (v := .int a3) (ty := .int) (C := RX9) (T := TX9) (N := 51) hx hb hts hu9 tyX9 tyX9_ok nmX9 hown hK hP hD hS 0 wm_0 rfl 49 (by decide) (hts (.fieldLink RX9 250 "GrazeBookModel" "planSteps" "I") (List.mem_cons_of_mem _ mw_832)) (fun _ h9 => h9) rfl (by decide +kernel) rfl rfl (Nat.le_of_ble_eq_true rfl) dX9_plan_457 (fun H locs hP hD hS => ?_)
                                  rw [wm_p49] at hP hD
                                  refine lv_aload_n hx hb dX9_plan_460 rfl (lv_at hl 4 rfl) ?_
                                  refine lv_iload hx hb dX9_plan_461 (lv_at hl 3 rfl) ?_
                                  refine va_put (D := D) (ci := 9) (v := .int (2 : Int32)) (ty := .int) (C := RX9) (T := TX9) (N := 51) hx hb hts hu9 tyX9 tyX9_ok nmX9 hown hK hP hD hS 0 wm_0 rfl 50 (by decide) (hts (.fieldLink RX9 253 "GrazeBookModel" "planHerds" "I") (List.mem_cons_of_mem _ mw_833)) (fun _ h9 => h9) rfl (by decide +kernel) rfl rfl (Nat.le_of_ble_eq_true rfl) dX9_plan_463 (fun H locs hP hD hS => ?_)
                                  rw [wm_p50] at hP hD
                                  refine lv_iload hx hb dX9_plan_466 (lv_at hl 1 rfl) ?_
                                  subst hB_93
                                  have hI9 : IR (put (put τ_93 49 0 a3) 50 0 (2 : Int32)) := (ir_putplan (σ := τ_93) hI_93 (pl_prod (pl_ok (n := 2) (m := 2) (by decide) (not_lt0 c_77) (le_i (not_lt0 c_81) (by decide)) (not_lt0 c_84) c_87)))
                                  subst hR
                                  rw [hQ]
                                  exact W.iret (v := v8_93) hx hb hr (fun t ht hW => ⟨⟨v8_93, (), rfl, rfl, ⟨by rw [ht]; exact hP, va_K.moved hW.alike hK, by rw [← hAe]; exact hD⟩, hI9⟩, hS.F ht⟩) hS.2.2 dX9_plan_468
                                · have hB_93 := (if_neg c_94).symm.trans hB_93
                                  refine lv_iconst (v := (1 : Int32)) hx hb dX9_plan_266 (by decide) ?_
                                  refine lv_istore (lv' := [(10, .int (1 : Int32)), (9, .int v9_93), (8, .int v8_93), (7, .int ((2 : Int32) * a3)), (5, .int (2 : Int32)), (0, .ref h), (1, .int a1), (2, .int a2), (3, .int a3), (4, .int a4)]) hx hb dX9_plan_267 hl (by decide) rfl (fun ls hl => ?_)
                                  refine lv_iconst (v := (0 : Int32)) hx hb dX9_plan_269 (by decide) ?_
                                  refine lv_istore (lv' := [(11, .int (0 : Int32)), (10, .int (1 : Int32)), (9, .int v9_93), (8, .int v8_93), (7, .int ((2 : Int32) * a3)), (5, .int (2 : Int32)), (0, .ref h), (1, .int a1), (2, .int a2), (3, .int a3), (4, .int a4)]) hx hb dX9_plan_270 hl (by decide) rfl (fun ls hl => ?_)
                                  have hE_95 : ∀ (v10_95 : Int32) (H : Heap) (locs : List Loc) (ls : Array Slot), s_X9_plan_c272_1 a1 a2 a3 a4 v8_93 τ_93 v10_95 = S_93 → va_P D vwCl (WM ca h ad τ_93) H → va_D A (WM ca h ad τ_93) → va_S A s.heap H locs → lv_has ls 13 [(10, .int v10_95), (8, .int v8_93), (7, .int ((2 : Int32) * a3)), (5, .int (2 : Int32)), (0, .ref h), (1, .int a1), (2, .int a2), (3, .int a3), (4, .int a4)] → W p l e ((headSpec wsX9_plan ({ frames := 5, cells := 0, slots := 0, locals := 131 })).room) s m ([.ref h, .int a1, .int a2, .int a3, .int a4] : List Value).toArray below meth c H locs 0 0 QQ (F0 m 310 ls []) := by
                                    intro v10_95 H locs ls hB_93 hP hD hS hl
                                    have hB_93 : (if v10_95 = (0 : Int32) then (s_X9_plan_j330_1 a3 v8_93 v10_95 (-1 : Int32) τ_93) else (s_X9_plan_j330_1 a3 v8_93 v10_95 ((s_X9_tries τ_93 a1 a2 (2 : Int32) a3 a4).1) ((s_X9_tries τ_93 a1 a2 (2 : Int32) a3 a4).2))) = S_93 := hB_93
                                    refine lv_iload hx hb dX9_plan_310 (lv_at hl 0 rfl) ?_
                                    have hJ_96 : ∀ (y0_96 : Int32) (τ_96 : St) (hI_96 : IR τ_96) (hf47_96 : τ_96 47 = τ_93 47)  (hf1_96 : τ_96 1 = σ 1)  (hf2_96 : τ_96 2 = σ 2) (H : Heap) (locs : List Loc) (ls : Array Slot), s_X9_plan_j330_1 a3 v8_93 v10_95 y0_96 τ_96 = S_93 → va_P D vwCl (WM ca h ad τ_96) H → va_D A (WM ca h ad τ_96) → va_S A s.heap H locs → lv_has ls 13 [(10, .int v10_95), (8, .int v8_93), (7, .int ((2 : Int32) * a3)), (5, .int (2 : Int32)), (0, .ref h), (1, .int a1), (2, .int a2), (3, .int a3), (4, .int a4)] → W p l e ((headSpec wsX9_plan ({ frames := 5, cells := 0, slots := 0, locals := 131 })).room) s m ([.ref h, .int a1, .int a2, .int a3, .int a4] : List Value).toArray below meth c H locs 0 0 QQ (F0 m 330 ls [.int y0_96]) := by
                                      intro y0_96 τ_96 hI_96 hf47_96 hf1_96 hf2_96 H locs ls hB_93 hP hD hS hl
                                      have hB_93 : (if v10_95 = (0 : Int32) then (s_X9_plan_j383_1 a3 v8_93 τ_96) else (if v8_93 < (0 : Int32) then (s_X9_plan_c356_2 a3 y0_96 (iter s_X9_plan_l356_2 (((2 : Int32) * a3).toNatClampNeg - 0) 0 τ_96)) else (if v8_93 ≤ y0_96 then (s_X9_plan_j383_1 a3 v8_93 τ_96) else (s_X9_plan_c356_3 a3 y0_96 (iter s_X9_plan_l356_3 (((2 : Int32) * a3).toNatClampNeg - 0) 0 τ_96))))) = S_93 := hB_93
                                      refine lv_istore (lv' := [(11, .int y0_96), (10, .int v10_95), (8, .int v8_93), (7, .int ((2 : Int32) * a3)), (5, .int (2 : Int32)), (0, .ref h), (1, .int a1), (2, .int a2), (3, .int a3), (4, .int a4)]) hx hb dX9_plan_330 hl (by decide) rfl (fun ls hl => ?_)
                                      refine lv_iload hx hb dX9_plan_332 (lv_at hl 1 rfl) ?_
                                      have hJ_97 : ∀ (v8_97 : Int32) (τ_97 : St) (hI_97 : IR τ_97) (hf47_97 : τ_97 47 = τ_93 47)  (hf1_97 : τ_97 1 = σ 1)  (hf2_97 : τ_97 2 = σ 2) (H : Heap) (locs : List Loc) (ls : Array Slot), s_X9_plan_j383_1 a3 v8_97 τ_97 = S_93 → va_P D vwCl (WM ca h ad τ_97) H → va_D A (WM ca h ad τ_97) → va_S A s.heap H locs → lv_has ls 13 [(8, .int v8_97), (7, .int ((2 : Int32) * a3)), (5, .int (2 : Int32)), (0, .ref h), (1, .int a1), (2, .int a2), (3, .int a3), (4, .int a4)] → W p l e ((headSpec wsX9_plan ({ frames := 5, cells := 0, slots := 0, locals := 131 })).room) s m ([.ref h, .int a1, .int a2, .int a3, .int a4] : List Value).toArray below meth c H locs 0 0 QQ (F0 m 383 ls []) := by
                                        intro v8_97 τ_97 hI_97 hf47_97 hf1_97 hf2_97 H locs ls hB_93 hP hD hS hl
                                        have hB_93 : (s_X9_plan_c389_1 v8_97 (iterDC s_X9_plan_l389_1 ((2 : Int32) * a3).toNatClampNeg τ_97)) = S_93 := hB_93
                                        refine lv_iload hx hb dX9_plan_383 (lv_at hl 1 rfl) ?_
                                        refine lv_iconst (v := (1 : Int32)) hx hb dX9_plan_385 (by decide) ?_
                                        refine lv_isub hx hb dX9_plan_386 ?_
                                        refine lv_istore (lv' := [(12, .int (((2 : Int32) * a3) - (1 : Int32))), (8, .int v8_97), (7, .int ((2 : Int32) * a3)), (5, .int (2 : Int32)), (0, .ref h), (1, .int a1), (2, .int a2), (3, .int a3), (4, .int a4)]) hx hb dX9_plan_387 hl (by decide) rfl (fun ls hl => ?_)
                                        have hE_98 : ∀ (j_98 : Nat) (τ_98 : St) (hj_98 : j_98 ≤ ((2 : Int32) * a3).toNatClampNeg) (hI_98 : IR τ_98) (hf1_98 : τ_98 1 = σ 1) (hf2_98 : τ_98 2 = σ 2) (hcv_98 : CV τ_97 τ_98 (σ 2 0).toNatClampNeg ((2 : Int32) * a3).toNatClampNeg j_98) (hd_98 : j_98 = 0 ∨ ¬ τ_98 47 (j_98 - 1) = σ 2 0 - 1) (H : Heap) (locs : List Loc) (ls : Array Slot), s_X9_plan_c389_1 v8_97 (j_98, τ_98) = S_93 → va_P D vwCl (WM ca h ad τ_98) H → va_D A (WM ca h ad τ_98) → va_S A s.heap H locs → lv_has ls 13 [(12, .int (nI j_98 - (1 : Int32))), (8, .int v8_97), (7, .int ((2 : Int32) * a3)), (5, .int (2 : Int32)), (0, .ref h), (1, .int a1), (2, .int a2), (3, .int a3), (4, .int a4)] → W p l e ((headSpec wsX9_plan ({ frames := 5, cells := 0, slots := 0, locals := 131 })).room) s m ([.ref h, .int a1, .int a2, .int a3, .int a4] : List Value).toArray below meth c H locs 0 0 QQ (F0 m 424 ls []) := by
                                          intro j_98 τ_98 hj_98 hI_98 hf1_98 hf2_98 hcv_98 hd_98 H locs ls hB_93 hP hD hS hl
                                          have hB_93 : (if (nI j_98 - (1 : Int32)) < (0 : Int32) then (Sum.inr ((0 : Int32), v8_97, τ_98)) else (Sum.inr ((1 : Int32), v8_97, (put τ_98 47 ((nI j_98 - (1 : Int32)).toNatClampNeg) ((τ_98 47 ((nI j_98 - (1 : Int32)).toNatClampNeg)) + (1 : Int32)))))) = S_93 := hB_93
                                          refine lv_iload hx hb dX9_plan_424 (lv_at hl 0 rfl) ?_
                                          refine lv_if_lt (tgt := 433) hx hb dX9_plan_426 (by decide) (fun c_99 => ?_) (fun c_99 => ?_)
                                          · have hB_93 := (if_pos c_99).symm.trans hB_93
                                            refine lv_iconst (v := (0 : Int32)) hx hb dX9_plan_433 (by decide) ?_
                                            refine lv_istore (lv' := [(9, .int (0 : Int32)), (12, .int (nI j_98 - (1 : Int32))), (8, .int v8_97), (7, .int ((2 : Int32) * a3)), (5, .int (2 : Int32)), (0, .ref h), (1, .int a1), (2, .int a2), (3, .int a3), (4, .int a4)]) hx hb dX9_plan_434 hl (by decide) rfl (fun ls hl => ?_)
                                            refine lv_iload hx hb dX9_plan_436 (lv_at hl 0 rfl) ?_
                                            refine lv_if_eq (tgt := 452) hx hb dX9_plan_438 (by decide) (fun _ => ?_) (fun c_100 => absurd (by decide) c_100)
                                            refine lv_goto (tgt := 261) hx hb dX9_plan_452 (by decide) ?_
                                            subst hB_93
                                            exact ih (k_93 + 1) (0 : Int32) v8_97 τ_98 hI_98 hf1_98 hf2_98 (hcv_98.2.1) (ms_end hm_93 c_94 ht_93) _ _ _ hR hP hD hS (lv_sub hl [0, 2, 3, 4, 5, 6, 7, 8, 9] rfl)
                                          · have hB_93 := (if_neg c_99).symm.trans hB_93
                                            refine lv_iconst (v := (1 : Int32)) hx hb dX9_plan_429 (by decide) ?_
                                            refine lv_goto (tgt := 434) hx hb dX9_plan_430 (by decide) ?_
                                            refine lv_istore (lv' := [(9, .int (1 : Int32)), (12, .int (nI j_98 - (1 : Int32))), (8, .int v8_97), (7, .int ((2 : Int32) * a3)), (5, .int (2 : Int32)), (0, .ref h), (1, .int a1), (2, .int a2), (3, .int a3), (4, .int a4)]) hx hb dX9_plan_434 hl (by decide) rfl (fun ls hl => ?_)
                                            refine lv_iload hx hb dX9_plan_436 (lv_at hl 0 rfl) ?_
                                            refine lv_if_eq (tgt := 452) hx hb dX9_plan_438 (by decide) (fun c_101 => absurd c_101 (by decide)) (fun _ => ?_)
                                            refine lv_aload_n hx hb dX9_plan_441 rfl (lv_at hl 5 rfl) ?_
                                            refine va_get (D := D) (ci := 9) (v := .ref (ad 47)) (C := RX9) (T := TX9) (N := 51) hx hb hts hu9 hown hK hP 0 wm_0 rfl 47 (by decide) (hts (.fieldLink RX9 116 "GrazeBookModel" "trial" "[I") (List.mem_cons_of_mem _ mw_830)) (fun _ h9 => h9) rfl dX9_plan_442 ?_
                                            refine lv_iload hx hb dX9_plan_445 (lv_at hl 1 rfl) ?_
                                            refine lv_dup2_11 hx hb dX9_plan_447 rfl rfl ?_
                                            refine va_iald_k (k := ((nI j_98 - (1 : Int32)).toNatClampNeg)) (v := (τ_98 47 ((nI j_98 - (1 : Int32)).toNatClampNeg))) hx hb hK hP 36 0 wm_a47 rfl rfl rfl (jx_rng c_99 hj_98 (plc_ok (pl_ok (n := 2) (m := 2) (by decide) (not_lt0 c_77) (le_i (not_lt0 c_81) (by decide)) (not_lt0 c_84) c_87))) dX9_plan_448 ?_
                                            refine lv_iconst (v := (1 : Int32)) hx hb dX9_plan_449 (by decide) ?_
                                            refine lv_iadd hx hb dX9_plan_450 ?_
                                            refine va_iast_k (k := ((nI j_98 - (1 : Int32)).toNatClampNeg)) hx hb hK hP hD hS 36 0 wm_a47 rfl rfl (jx_rng c_99 hj_98 (plc_ok (pl_ok (n := 2) (m := 2) (by decide) (not_lt0 c_77) (le_i (not_lt0 c_81) (by decide)) (not_lt0 c_84) c_87))) dX9_plan_451 (fun H locs hP hD hS => ?_)
                                            rw [wm_s47] at hP hD
                                            refine lv_goto (tgt := 261) hx hb dX9_plan_452 (by decide) ?_
                                            subst hB_93
                                            exact ih (k_93 + 1) (1 : Int32) v8_97 (put τ_98 47 ((nI j_98 - (1 : Int32)).toNatClampNeg) ((τ_98 47 ((nI j_98 - (1 : Int32)).toNatClampNeg)) + (1 : Int32))) hI_98 hf1_98 hf2_98 ((cv_inc (x := ((2 : Int32) * a3)) (ir_2 hI) hcv_98 c_99 hj_98 (plc_ok (pl_ok (n := 2) (m := 2) (by decide) (not_lt0 c_77) (le_i (not_lt0 c_81) (by decide)) (not_lt0 c_84) c_87)) hd_98).1) (ms_next hm_93 c_94 ((cv_inc (x := ((2 : Int32) * a3)) (ir_2 hI) hcv_98 c_99 hj_98 (plc_ok (pl_ok (n := 2) (m := 2) (by decide) (not_lt0 c_77) (le_i (not_lt0 c_81) (by decide)) (not_lt0 c_84) c_87)) hd_98).2.trans (congrArg (· + 1) (vl_cast hf47_97)))) _ _ _ hR hP hD hS (lv_sub hl [0, 2, 3, 4, 5, 6, 7, 8, 9] rfl)
                                        have hL_98 : ∀ (n : Nat) (τ_98 : St) (hk_98 : n ≤ ((2 : Int32) * a3).toNatClampNeg) (hI_98 : IR τ_98) (hf1_98 : τ_98 1 = σ 1) (hf2_98 : τ_98 2 = σ 2) (hcv_98 : CV τ_97 τ_98 (σ 2 0).toNatClampNeg ((2 : Int32) * a3).toNatClampNeg n) (hd_98 : True) (H : Heap) (locs : List Loc) (ls : Array Slot), s_X9_plan_c389_1 v8_97 (iterDC s_X9_plan_l389_1 n τ_98) = S_93 → va_P D vwCl (WM ca h ad τ_98) H → va_D A (WM ca h ad τ_98) → va_S A s.heap H locs → lv_has ls 13 [(12, .int (nI n - (1 : Int32))), (8, .int v8_97), (7, .int ((2 : Int32) * a3)), (5, .int (2 : Int32)), (0, .ref h), (1, .int a1), (2, .int a2), (3, .int a3), (4, .int a4)] → W p l e ((headSpec wsX9_plan ({ frames := 5, cells := 0, slots := 0, locals := 131 })).room) s m ([.ref h, .int a1, .int a2, .int a3, .int a4] : List Value).toArray below meth c H locs 0 0 QQ (F0 m 389 ls []) := by
                                          intro n
                                          induction n with
                                          | zero =>
                                            intro τ_98 hk_98 hI_98 hf1_98 hf2_98 hcv_98 hd_98 H locs ls hB_93 hP hD hS hl
                                            refine lv_iload hx hb dX9_plan_389 (lv_at hl 0 rfl) ?_
                                            refine lv_if_lt (tgt := 424) hx hb dX9_plan_391 (by decide) (fun _ => ?_) (fun c9 => absurd (by decide) c9)
                                            exact hE_98 0 τ_98 (Nat.zero_le _) hI_98 hf1_98 hf2_98 hcv_98 (Or.inl rfl) _ _ _ hB_93 hP hD hS (lv_sub hl [0, 1, 2, 3, 4, 5, 6, 7, 8] rfl)
                                          | succ k_98 ih =>
                                            intro τ_98 hk_98 hI_98 hf1_98 hf2_98 hcv_98 hd_98 H locs ls hB_93 hP hD hS hl
                                            obtain ⟨S_98, hB_98⟩ : ∃ s9, s_X9_plan_l389_1 k_98 τ_98 = s9 := ⟨_, rfl⟩
                                            have hB_93 : s_X9_plan_c389_1 v8_97 (iterDC1 s_X9_plan_l389_1 k_98 τ_98 S_98) = S_93 := by rw [← hB_98]; exact hB_93
                                            have hB_98 : (if (τ_98 47 k_98) = ((τ_98 2 0) - (1 : Int32)) then (some (put τ_98 47 k_98 (0 : Int32))) else none) = S_98 := hB_98
                                            rw [nI_pred] at hl
                                            refine lv_iload hx hb dX9_plan_389 (lv_at hl 0 rfl) ?_
                                            refine lv_if_lt (tgt := 424) hx hb dX9_plan_391 (by decide) (fun c9 => absurd c9 (nI_pos (dn_lt hk_98))) (fun _ => ?_)
                                            refine lv_aload_n hx hb dX9_plan_394 rfl (lv_at hl 4 rfl) ?_
                                            refine va_get (D := D) (ci := 9) (v := .ref (ad 47)) (C := RX9) (T := TX9) (N := 51) hx hb hts hu9 hown hK hP 0 wm_0 rfl 47 (by decide) (hts (.fieldLink RX9 116 "GrazeBookModel" "trial" "[I") (List.mem_cons_of_mem _ mw_830)) (fun _ h9 => h9) rfl dX9_plan_395 ?_
                                            refine lv_iload hx hb dX9_plan_398 (lv_at hl 0 rfl) ?_
                                            refine va_iald_k (k := k_98) (v := (τ_98 47 k_98)) hx hb hK hP 36 0 wm_a47 rfl (ix_cld hk_98) rfl (ix_down (N := 8) hk_98 (plc_ok (pl_ok (n := 2) (m := 2) (by decide) (not_lt0 c_77) (le_i (not_lt0 c_81) (by decide)) (not_lt0 c_84) c_87)) (by decide) (by decide)) dX9_plan_400 ?_
                                            refine lv_aload_n hx hb dX9_plan_401 rfl (lv_at hl 4 rfl) ?_
                                            refine va_get (D := D) (ci := 9) (v := .int (τ_98 2 0)) (C := RX9) (T := TX9) (N := 51) hx hb hts hu9 hown hK hP 0 wm_0 rfl 2 (by decide) (hts (.fieldLink RX9 127 "GrazeBookModel" "pieces" "I") (List.mem_cons_of_mem _ mw_785)) (fun _ h9 => h9) rfl dX9_plan_402 ?_
                                            refine lv_iconst (v := (1 : Int32)) hx hb dX9_plan_405 (by decide) ?_
                                            refine lv_isub hx hb dX9_plan_406 ?_
                                            refine lv_icmp_ne (tgt := 424) hx hb dX9_plan_407 (by decide) (fun c_102 => ?_) (fun c_102 => ?_)
                                            · have hB_98 := (if_neg c_102).symm.trans hB_98
                                              subst hB_98
                                              rw [← nI_pred k_98] at hl
                                              exact hE_98 (k_98 + 1) τ_98 hk_98 hI_98 hf1_98 hf2_98 hcv_98 (Or.inr (by rw [← congrFun hf2_98 0]; exact c_102)) _ _ _ hB_93 hP hD hS (lv_sub hl [0, 1, 2, 3, 4, 5, 6, 7, 8] rfl)
                                            · have hB_98 := (if_pos c_102).symm.trans hB_98
                                              refine lv_aload_n hx hb dX9_plan_410 rfl (lv_at hl 4 rfl) ?_
                                              refine va_get (D := D) (ci := 9) (v := .ref (ad 47)) (C := RX9) (T := TX9) (N := 51) hx hb hts hu9 hown hK hP 0 wm_0 rfl 47 (by decide) (hts (.fieldLink RX9 116 "GrazeBookModel" "trial" "[I") (List.mem_cons_of_mem _ mw_830)) (fun _ h9 => h9) rfl dX9_plan_411 ?_
                                              refine lv_iload hx hb dX9_plan_414 (lv_at hl 0 rfl) ?_
                                              refine lv_iconst (v := (0 : Int32)) hx hb dX9_plan_416 (by decide) ?_
                                              refine va_iast_k (k := k_98) hx hb hK hP hD hS 36 0 wm_a47 rfl (ix_cld hk_98) (ix_down (N := 8) hk_98 (plc_ok (pl_ok (n := 2) (m := 2) (by decide) (not_lt0 c_77) (le_i (not_lt0 c_81) (by decide)) (not_lt0 c_84) c_87)) (by decide) (by decide)) dX9_plan_417 (fun H locs hP hD hS => ?_)
                                              rw [wm_s47] at hP hD
                                              refine lv_iinc (v := ((nI k_98) + (-1 : Int32))) (lv' := [(12, .int ((nI k_98) + (-1 : Int32))), (8, .int v8_97), (7, .int ((2 : Int32) * a3)), (5, .int (2 : Int32)), (0, .ref h), (1, .int a1), (2, .int a2), (3, .int a3), (4, .int a4)]) hx hb dX9_plan_418 hl (k := 0) rfl (by rw [show Int32.ofInt (-1) = (-1 : Int32) from by decide]) (by decide) rfl (fun ls hl => ?_)
                                              refine lv_goto (tgt := 389) hx hb dX9_plan_421 (by decide) ?_
                                              subst hB_98
                                              rw [m1_sub] at hl
                                              exact ih (put τ_98 47 k_98 (0 : Int32)) (Nat.le_of_succ_le hk_98) hI_98 hf1_98 hf2_98 (cv_next (p := σ 2 0) rfl (ir_2 hI).1 (hg_89 c_90) hcv_98 (by rw [← congrFun hf2_98 0]; exact c_102)) trivial _ _ _ hB_93 hP hD hS (lv_sub hl [0, 1, 2, 3, 4, 5, 6, 7, 8] rfl)
                                        rw [dn_eq (plc_ok (pl_ok (n := 2) (m := 2) (by decide) (not_lt0 c_77) (le_i (not_lt0 c_81) (by decide)) (not_lt0 c_84) c_87)).1] at hl
                                        exact hL_98 _ τ_97 (Nat.le_refl _) hI_97 hf1_97 hf2_97 (cv_start (okT_cast hf47_97 ht_93)) trivial _ _ _ hB_93 hP hD hS (lv_sub hl [0, 1, 2, 3, 4, 5, 6, 7, 8] rfl)
                                      refine lv_if_eq (tgt := 383) hx hb dX9_plan_334 (by decide) (fun c_103 => ?_) (fun c_103 => ?_)
                                      · have hB_93 := (if_pos c_103).symm.trans hB_93
                                        exact hJ_97 v8_93 τ_96 hI_96 hf47_96 hf1_96 hf2_96 _ _ _ hB_93 hP hD hS (lv_sub hl [2, 3, 4, 5, 6, 7, 8, 9] rfl)
                                      · have hB_93 := (if_neg c_103).symm.trans hB_93
                                        refine lv_iload hx hb dX9_plan_337 (lv_at hl 2 rfl) ?_
                                        refine lv_if_lt (tgt := 349) hx hb dX9_plan_339 (by decide) (fun c_104 => ?_) (fun c_104 => ?_)
                                        · have hB_93 := (if_pos c_104).symm.trans hB_93
                                          refine lv_iload hx hb dX9_plan_349 (lv_at hl 0 rfl) ?_
                                          refine lv_istore (lv' := [(8, .int y0_96), (11, .int y0_96), (10, .int v10_95), (7, .int ((2 : Int32) * a3)), (5, .int (2 : Int32)), (0, .ref h), (1, .int a1), (2, .int a2), (3, .int a3), (4, .int a4)]) hx hb dX9_plan_351 hl (by decide) rfl (fun ls hl => ?_)
                                          refine lv_iconst (v := (0 : Int32)) hx hb dX9_plan_353 (by decide) ?_
                                          refine lv_istore (lv' := [(12, .int (0 : Int32)), (8, .int y0_96), (11, .int y0_96), (10, .int v10_95), (7, .int ((2 : Int32) * a3)), (5, .int (2 : Int32)), (0, .ref h), (1, .int a1), (2, .int a2), (3, .int a3), (4, .int a4)]) hx hb dX9_plan_354 hl (by decide) rfl (fun ls hl => ?_)
                                          have hE_105 : ∀ (τ_105 : St) (hI_105 : IR τ_105) (hf47_105 : τ_105 47 = τ_93 47) (hf1_105 : τ_105 1 = σ 1) (hf2_105 : τ_105 2 = σ 2) (H : Heap) (locs : List Loc) (ls : Array Slot), s_X9_plan_c356_2 a3 y0_96 τ_105 = S_93 → va_P D vwCl (WM ca h ad τ_105) H → va_D A (WM ca h ad τ_105) → va_S A s.heap H locs → lv_has ls 13 [(8, .int y0_96), (7, .int ((2 : Int32) * a3)), (5, .int (2 : Int32)), (0, .ref h), (1, .int a1), (2, .int a2), (3, .int a3), (4, .int a4)] → W p l e ((headSpec wsX9_plan ({ frames := 5, cells := 0, slots := 0, locals := 131 })).room) s m ([.ref h, .int a1, .int a2, .int a3, .int a4] : List Value).toArray below meth c H locs 0 0 QQ (F0 m 383 ls []) := by
                                            intro τ_105 hI_105 hf47_105 hf1_105 hf2_105 H locs ls hB_93 hP hD hS hl
                                            have hB_93 : (s_X9_plan_j383_1 a3 y0_96 τ_105) = S_93 := hB_93
                                            exact hJ_97 y0_96 τ_105 hI_105 hf47_105 hf1_105 hf2_105 _ _ _ hB_93 hP hD hS (lv_sub hl [0, 1, 2, 3, 4, 5, 6, 7] rfl)
                                          have hL_105 : ∀ (n k_105 : Nat) (τ_105 : St) (hk_105 : lpk ((2 : Int32) * a3) k_105 n) (hI_105 : IR τ_105) (hf47_105 : τ_105 47 = τ_93 47) (hf1_105 : τ_105 1 = σ 1) (hf2_105 : τ_105 2 = σ 2) (H : Heap) (locs : List Loc) (ls : Array Slot), s_X9_plan_c356_2 a3 y0_96 (iter s_X9_plan_l356_2 n k_105 τ_105) = S_93 → va_P D vwCl (WM ca h ad τ_105) H → va_D A (WM ca h ad τ_105) → va_S A s.heap H locs → lv_has ls 13 [(12, .int (nI k_105)), (8, .int y0_96), (7, .int ((2 : Int32) * a3)), (5, .int (2 : Int32)), (0, .ref h), (1, .int a1), (2, .int a2), (3, .int a3), (4, .int a4)] → W p l e ((headSpec wsX9_plan ({ frames := 5, cells := 0, slots := 0, locals := 131 })).room) s m ([.ref h, .int a1, .int a2, .int a3, .int a4] : List Value).toArray below meth c H locs 0 0 QQ (F0 m 356 ls []) := by
                                            intro n
                                            induction n with
                                            | zero =>
                                              intro k_105 τ_105 hk_105 hI_105 hf47_105 hf1_105 hf2_105 H locs ls hB_93 hP hD hS hl
                                              refine lv_iload hx hb dX9_plan_356 (lv_at hl 0 rfl) ?_
                                              refine lv_iload hx hb dX9_plan_358 (lv_at hl 2 rfl) ?_
                                              refine lv_icmp_ge (tgt := 383) hx hb dX9_plan_360 (by decide) (fun _ => ?_) (fun c_106 => absurd (ge_end hk_105) c_106)
                                              exact hE_105 τ_105 hI_105 hf47_105 hf1_105 hf2_105 _ _ _ hB_93 hP hD hS (lv_sub hl [1, 2, 3, 4, 5, 6, 7, 8] rfl)
                                            | succ n ih =>
                                              intro k_105 τ_105 hk_105 hI_105 hf47_105 hf1_105 hf2_105 H locs ls hB_93 hP hD hS hl
                                              obtain ⟨S_105, hB_105⟩ : ∃ s9, s_X9_plan_l356_2 k_105 τ_105 = s9 := ⟨_, rfl⟩
                                              have hB_93 : s_X9_plan_c356_2 a3 y0_96 (iter s_X9_plan_l356_2 n (k_105 + 1) S_105) = S_93 := by rw [← hB_105]; exact hB_93
                                              have hB_105 : (put τ_105 48 k_105 (τ_105 47 k_105)) = S_105 := hB_105
                                              refine lv_iload hx hb dX9_plan_356 (lv_at hl 0 rfl) ?_
                                              refine lv_iload hx hb dX9_plan_358 (lv_at hl 2 rfl) ?_
                                              refine lv_icmp_ge (tgt := 383) hx hb dX9_plan_360 (by decide) (fun c_107 => absurd c_107 (ge_go hk_105)) (fun _ => ?_)
                                              refine lv_aload_n hx hb dX9_plan_363 rfl (lv_at hl 4 rfl) ?_
                                              refine va_get (D := D) (ci := 9) (v := .ref (ad 48)) (C := RX9) (T := TX9) (N := 51) hx hb hts hu9 hown hK hP 0 wm_0 rfl 48 (by decide) (hts (.fieldLink RX9 119 "GrazeBookModel" "best" "[I") (List.mem_cons_of_mem _ mw_831)) (fun _ h9 => h9) rfl dX9_plan_364 ?_
                                              refine lv_iload hx hb dX9_plan_367 (lv_at hl 0 rfl) ?_
                                              refine lv_aload_n hx hb dX9_plan_369 rfl (lv_at hl 4 rfl) ?_
                                              refine va_get (D := D) (ci := 9) (v := .ref (ad 47)) (C := RX9) (T := TX9) (N := 51) hx hb hts hu9 hown hK hP 0 wm_0 rfl 47 (by decide) (hts (.fieldLink RX9 116 "GrazeBookModel" "trial" "[I") (List.mem_cons_of_mem _ mw_830)) (fun _ h9 => h9) rfl dX9_plan_370 ?_
                                              refine lv_iload hx hb dX9_plan_373 (lv_at hl 0 rfl) ?_
                                              refine va_iald_k (k := k_105) (v := (τ_105 47 k_105)) hx hb hK hP 36 0 wm_a47 rfl (ix_cl hk_105) rfl (ix_loop (N := 8) hk_105 (plc_ok (pl_ok (n := 2) (m := 2) (by decide) (not_lt0 c_77) (le_i (not_lt0 c_81) (by decide)) (not_lt0 c_84) c_87)) (by decide) (by decide)) dX9_plan_375 ?_
                                              refine va_iast_k (k := k_105) hx hb hK hP hD hS 37 0 wm_a48 rfl (ix_cl hk_105) (ix_loop (N := 8) hk_105 (plc_ok (pl_ok (n := 2) (m := 2) (by decide) (not_lt0 c_77) (le_i (not_lt0 c_81) (by decide)) (not_lt0 c_84) c_87)) (by decide) (by decide)) dX9_plan_376 (fun H locs hP hD hS => ?_)
                                              rw [wm_s48] at hP hD
                                              refine lv_iinc (v := (nI (k_105 + 1))) (lv' := [(12, .int (nI (k_105 + 1))), (8, .int y0_96), (7, .int ((2 : Int32) * a3)), (5, .int (2 : Int32)), (0, .ref h), (1, .int a1), (2, .int a2), (3, .int a3), (4, .int a4)]) hx hb dX9_plan_377 hl (k := 0) rfl (by rw [show Int32.ofInt 1 = 1 from by decide]; exact nI_1 _) (by decide) rfl (fun ls hl => ?_)
                                              refine lv_goto (tgt := 356) hx hb dX9_plan_380 (by decide) ?_
                                              subst hB_105
                                              exact ih (k_105 + 1) (put τ_105 48 k_105 (τ_105 47 k_105)) (ge_next hk_105) hI_105 hf47_105 hf1_105 hf2_105 _ _ _ hB_93 hP hD hS (lv_sub hl [0, 1, 2, 3, 4, 5, 6, 7, 8] rfl)
                                          exact hL_105 _ 0 τ_96 ⟨rfl, by decide⟩ hI_96 hf47_96 hf1_96 hf2_96 _ _ _ hB_93 hP hD hS (lv_sub hl [0, 1, 4, 5, 6, 7, 8, 9, 10] rfl)
                                        · have hB_93 := (if_neg c_104).symm.trans hB_93
                                          refine lv_iload hx hb dX9_plan_342 (lv_at hl 0 rfl) ?_
                                          refine lv_iload hx hb dX9_plan_344 (lv_at hl 2 rfl) ?_
                                          refine lv_icmp_ge (tgt := 383) hx hb dX9_plan_346 (by decide) (fun c_108 => ?_) (fun c_108 => ?_)
                                          · have hB_93 := (if_pos c_108).symm.trans hB_93
                                            exact hJ_97 v8_93 τ_96 hI_96 hf47_96 hf1_96 hf2_96 _ _ _ hB_93 hP hD hS (lv_sub hl [2, 3, 4, 5, 6, 7, 8, 9] rfl)
                                          · have hB_93 := (if_neg c_108).symm.trans hB_93
                                            refine lv_iload hx hb dX9_plan_349 (lv_at hl 0 rfl) ?_
                                            refine lv_istore (lv' := [(8, .int y0_96), (11, .int y0_96), (10, .int v10_95), (7, .int ((2 : Int32) * a3)), (5, .int (2 : Int32)), (0, .ref h), (1, .int a1), (2, .int a2), (3, .int a3), (4, .int a4)]) hx hb dX9_plan_351 hl (by decide) rfl (fun ls hl => ?_)
                                            refine lv_iconst (v := (0 : Int32)) hx hb dX9_plan_353 (by decide) ?_
                                            refine lv_istore (lv' := [(12, .int (0 : Int32)), (8, .int y0_96), (11, .int y0_96), (10, .int v10_95), (7, .int ((2 : Int32) * a3)), (5, .int (2 : Int32)), (0, .ref h), (1, .int a1), (2, .int a2), (3, .int a3), (4, .int a4)]) hx hb dX9_plan_354 hl (by decide) rfl (fun ls hl => ?_)
                                            have hE_109 : ∀ (τ_109 : St) (hI_109 : IR τ_109) (hf47_109 : τ_109 47 = τ_93 47) (hf1_109 : τ_109 1 = σ 1) (hf2_109 : τ_109 2 = σ 2) (H : Heap) (locs : List Loc) (ls : Array Slot), s_X9_plan_c356_3 a3 y0_96 τ_109 = S_93 → va_P D vwCl (WM ca h ad τ_109) H → va_D A (WM ca h ad τ_109) → va_S A s.heap H locs → lv_has ls 13 [(8, .int y0_96), (7, .int ((2 : Int32) * a3)), (5, .int (2 : Int32)), (0, .ref h), (1, .int a1), (2, .int a2), (3, .int a3), (4, .int a4)] → W p l e ((headSpec wsX9_plan ({ frames := 5, cells := 0, slots := 0, locals := 131 })).room) s m ([.ref h, .int a1, .int a2, .int a3, .int a4] : List Value).toArray below meth c H locs 0 0 QQ (F0 m 383 ls []) := by
                                              intro τ_109 hI_109 hf47_109 hf1_109 hf2_109 H locs ls hB_93 hP hD hS hl
                                              have hB_93 : (s_X9_plan_j383_1 a3 y0_96 τ_109) = S_93 := hB_93
                                              exact hJ_97 y0_96 τ_109 hI_109 hf47_109 hf1_109 hf2_109 _ _ _ hB_93 hP hD hS (lv_sub hl [0, 1, 2, 3, 4, 5, 6, 7] rfl)
                                            have hL_109 : ∀ (n k_109 : Nat) (τ_109 : St) (hk_109 : lpk ((2 : Int32) * a3) k_109 n) (hI_109 : IR τ_109) (hf47_109 : τ_109 47 = τ_93 47) (hf1_109 : τ_109 1 = σ 1) (hf2_109 : τ_109 2 = σ 2) (H : Heap) (locs : List Loc) (ls : Array Slot), s_X9_plan_c356_3 a3 y0_96 (iter s_X9_plan_l356_3 n k_109 τ_109) = S_93 → va_P D vwCl (WM ca h ad τ_109) H → va_D A (WM ca h ad τ_109) → va_S A s.heap H locs → lv_has ls 13 [(12, .int (nI k_109)), (8, .int y0_96), (7, .int ((2 : Int32) * a3)), (5, .int (2 : Int32)), (0, .ref h), (1, .int a1), (2, .int a2), (3, .int a3), (4, .int a4)] → W p l e ((headSpec wsX9_plan ({ frames := 5, cells := 0, slots := 0, locals := 131 })).room) s m ([.ref h, .int a1, .int a2, .int a3, .int a4] : List Value).toArray below meth c H locs 0 0 QQ (F0 m 356 ls []) := by
                                              intro n
                                              induction n with
                                              | zero =>
                                                intro k_109 τ_109 hk_109 hI_109 hf47_109 hf1_109 hf2_109 H locs ls hB_93 hP hD hS hl
                                                refine lv_iload hx hb dX9_plan_356 (lv_at hl 0 rfl) ?_
                                                refine lv_iload hx hb dX9_plan_358 (lv_at hl 2 rfl) ?_
                                                refine lv_icmp_ge (tgt := 383) hx hb dX9_plan_360 (by decide) (fun _ => ?_) (fun c_110 => absurd (ge_end hk_109) c_110)
                                                exact hE_109 τ_109 hI_109 hf47_109 hf1_109 hf2_109 _ _ _ hB_93 hP hD hS (lv_sub hl [1, 2, 3, 4, 5, 6, 7, 8] rfl)
                                              | succ n ih =>
                                                intro k_109 τ_109 hk_109 hI_109 hf47_109 hf1_109 hf2_109 H locs ls hB_93 hP hD hS hl
                                                obtain ⟨S_109, hB_109⟩ : ∃ s9, s_X9_plan_l356_3 k_109 τ_109 = s9 := ⟨_, rfl⟩
                                                have hB_93 : s_X9_plan_c356_3 a3 y0_96 (iter s_X9_plan_l356_3 n (k_109 + 1) S_109) = S_93 := by rw [← hB_109]; exact hB_93
                                                have hB_109 : (put τ_109 48 k_109 (τ_109 47 k_109)) = S_109 := hB_109
                                                refine lv_iload hx hb dX9_plan_356 (lv_at hl 0 rfl) ?_
                                                refine lv_iload hx hb dX9_plan_358 (lv_at hl 2 rfl) ?_
                                                refine lv_icmp_ge (tgt := 383) hx hb dX9_plan_360 (by decide) (fun c_111 => absurd c_111 (ge_go hk_109)) (fun _ => ?_)
                                                refine lv_aload_n hx hb dX9_plan_363 rfl (lv_at hl 4 rfl) ?_
                                                refine va_get (D := D) (ci := 9) (v := .ref (ad 48)) (C := RX9) (T := TX9) (N := 51) hx hb hts hu9 hown hK hP 0 wm_0 rfl 48 (by decide) (hts (.fieldLink RX9 119 "GrazeBookModel" "best" "[I") (List.mem_cons_of_mem _ mw_831)) (fun _ h9 => h9) rfl dX9_plan_364 ?_
                                                refine lv_iload hx hb dX9_plan_367 (lv_at hl 0 rfl) ?_
                                                refine lv_aload_n hx hb dX9_plan_369 rfl (lv_at hl 4 rfl) ?_
                                                refine va_get (D := D) (ci := 9) (v := .ref (ad 47)) (C := RX9) (T := TX9) (N := 51) hx hb hts hu9 hown hK hP 0 wm_0 rfl 47 (by decide) (hts (.fieldLink RX9 116 "GrazeBookModel" "trial" "[I") (List.mem_cons_of_mem _ mw_830)) (fun _ h9 => h9) rfl dX9_plan_370 ?_
                                                refine lv_iload hx hb dX9_plan_373 (lv_at hl 0 rfl) ?_
                                                refine va_iald_k (k := k_109) (v := (τ_109 47 k_109)) hx hb hK hP 36 0 wm_a47 rfl (ix_cl hk_109) rfl (ix_loop (N := 8) hk_109 (plc_ok (pl_ok (n := 2) (m := 2) (by decide) (not_lt0 c_77) (le_i (not_lt0 c_81) (by decide)) (not_lt0 c_84) c_87)) (by decide) (by decide)) dX9_plan_375 ?_
                                                refine va_iast_k (k := k_109) hx hb hK hP hD hS 37 0 wm_a48 rfl (ix_cl hk_109) (ix_loop (N := 8) hk_109 (plc_ok (pl_ok (n := 2) (m := 2) (by decide) (not_lt0 c_77) (le_i (not_lt0 c_81) (by decide)) (not_lt0 c_84) c_87)) (by decide) (by decide)) dX9_plan_376 (fun H locs hP hD hS => ?_)
                                                rw [wm_s48] at hP hD
                                                refine lv_iinc (v := (nI (k_109 + 1))) (lv' := [(12, .int (nI (k_109 + 1))), (8, .int y0_96), (7, .int ((2 : Int32) * a3)), (5, .int (2 : Int32)), (0, .ref h), (1, .int a1), (2, .int a2), (3, .int a3), (4, .int a4)]) hx hb dX9_plan_377 hl (k := 0) rfl (by rw [show Int32.ofInt 1 = 1 from by decide]; exact nI_1 _) (by decide) rfl (fun ls hl => ?_)
                                                refine lv_goto (tgt := 356) hx hb dX9_plan_380 (by decide) ?_
                                                subst hB_109
                                                exact ih (k_109 + 1) (put τ_109 48 k_109 (τ_109 47 k_109)) (ge_next hk_109) hI_109 hf47_109 hf1_109 hf2_109 _ _ _ hB_93 hP hD hS (lv_sub hl [0, 1, 2, 3, 4, 5, 6, 7, 8] rfl)
                                            exact hL_109 _ 0 τ_96 ⟨rfl, by decide⟩ hI_96 hf47_96 hf1_96 hf2_96 _ _ _ hB_93 hP hD hS (lv_sub hl [0, 1, 4, 5, 6, 7, 8, 9, 10] rfl)
                                    refine lv_if_eq (tgt := 329) hx hb dX9_plan_312 (by decide) (fun c_112 => ?_) (fun c_112 => ?_)
                                    · have hB_93 := (if_pos c_112).symm.trans hB_93
                                      refine lv_iconst (v := (-1 : Int32)) hx hb dX9_plan_329 (by decide) ?_
                                      exact hJ_96 (-1 : Int32) τ_93 hI_93 rfl hf1_93 hf2_93 _ _ _ hB_93 hP hD hS (lv_sub hl [0, 1, 2, 3, 4, 5, 6, 7, 8] rfl)
                                    · have hB_93 := (if_neg c_112).symm.trans hB_93
                                      refine lv_aload_n hx hb dX9_plan_315 rfl (lv_at hl 4 rfl) ?_
                                      refine lv_iload_n hx hb dX9_plan_316 rfl (lv_at hl 5 rfl) ?_
                                      refine lv_iload_n hx hb dX9_plan_317 rfl (lv_at hl 6 rfl) ?_
                                      refine lv_iload hx hb dX9_plan_318 (lv_at hl 3 rfl) ?_
                                      refine lv_iload_n hx hb dX9_plan_320 rfl (lv_at hl 7 rfl) ?_
                                      refine lv_iload hx hb dX9_plan_321 (lv_at hl 8 rfl) ?_
                                      have hF := pw_free hD hS hA
                                      refine va_calli (va_runV (As := [.int a1, .int a2, .int (2 : Int32), .int a3, .int a4]) (rest := []) ⟨hx, hb, hml, hown, hts⟩ (k_X9_tries l D ca h ad τ_93 a1 a2 (2 : Int32) a3 a4 H.size hI_93 (ix_isIn c_2 (ir_6 hI)) (fun _ => (ix_isIn c_72 (ir_6 hI))) (pl_ok (n := 2) (m := 2) (by decide) (not_lt0 c_77) (le_i (not_lt0 c_81) (by decide)) (not_lt0 c_84) c_87) (pl_day (pl_ok (n := 2) (m := 2) (by decide) (not_lt0 c_77) (le_i (not_lt0 c_81) (by decide)) (not_lt0 c_84) c_87) (ir_1 hI) c_91 (congrFun hf1_93 0)) _ rfl) (cwV 5 hts gX9_plan_X9_tries rfl rfl rfl (by decide +kernel) ⟨Nat.le_of_ble_eq_true rfl, Nat.le_of_ble_eq_true rfl⟩) ⟨pw_blind, va_recv hK hP (ci := 9) (q0 := 0) rfl wm_0, pw_give hP hK hD⟩ rfl rfl hl.1 rfl (lv_room (Nat.le_of_ble_eq_true rfl)) dX9_plan_323 ⟨Nat.le_of_ble_eq_true rfl, Nat.le_of_ble_eq_true rfl⟩) hS (fun q _ h => hF q h) hF (fun r_113 u t H1 locs ht hvm hw hB hz1 hk1 hS => ?_)
                                      subst hw
                                      obtain ⟨hB, hI_114⟩ := hB
                                      obtain ⟨hP, hD⟩ := pw_back hF ht hB
                                      clear hB hk1 hz1 hF
                                      generalize H1 = H at hP hS ⊢
                                      refine lv_goto (tgt := 330) hx hb dX9_plan_326 (by decide) ?_
                                      exact hJ_96 ((s_X9_tries τ_93 a1 a2 (2 : Int32) a3 a4).1) ((s_X9_tries τ_93 a1 a2 (2 : Int32) a3 a4).2) hI_114 ((fr_s_X9_tries τ_93 a1 a2 (2 : Int32) a3 a4 (f := 47) (by decide) (by decide) (by decide) (by decide)).trans rfl) ((fr_s_X9_tries τ_93 a1 a2 (2 : Int32) a3 a4 (f := 1) (by decide) (by decide) (by decide) (by decide)).trans hf1_93) ((fr_s_X9_tries τ_93 a1 a2 (2 : Int32) a3 a4 (f := 2) (by decide) (by decide) (by decide) (by decide)).trans hf2_93) _ _ _ hB_93 hP hD hS (lv_sub hl [0, 1, 2, 3, 4, 5, 6, 7, 8] rfl)
                                  have hL_95 : ∀ (n k_95 : Nat) (v10_95 : Int32) (hk_95 : lpk ((2 : Int32) * a3) k_95 n) (H : Heap) (locs : List Loc) (ls : Array Slot), s_X9_plan_c272_1 a1 a2 a3 a4 v8_93 τ_93 (iterC (s_X9_plan_l272_1 a4 τ_93) n k_95 v10_95) = S_93 → va_P D vwCl (WM ca h ad τ_93) H → va_D A (WM ca h ad τ_93) → va_S A s.heap H locs → lv_has ls 13 [(11, .int (nI k_95)), (10, .int v10_95), (8, .int v8_93), (7, .int ((2 : Int32) * a3)), (5, .int (2 : Int32)), (0, .ref h), (1, .int a1), (2, .int a2), (3, .int a3), (4, .int a4)] → W p l e ((headSpec wsX9_plan ({ frames := 5, cells := 0, slots := 0, locals := 131 })).room) s m ([.ref h, .int a1, .int a2, .int a3, .int a4] : List Value).toArray below meth c H locs 0 0 QQ (F0 m 272 ls []) := by
                                    intro n
                                    induction n with
                                    | zero =>
                                      intro k_95 v10_95 hk_95 H locs ls hB_93 hP hD hS hl
                                      refine lv_iload hx hb dX9_plan_272 (lv_at hl 0 rfl) ?_
                                      refine lv_iload hx hb dX9_plan_274 (lv_at hl 3 rfl) ?_
                                      refine lv_icmp_ge (tgt := 310) hx hb dX9_plan_276 (by decide) (fun _ => ?_) (fun c_115 => absurd (ge_end hk_95) c_115)
                                      exact hE_95 v10_95 _ _ _ hB_93 hP hD hS (lv_sub hl [1, 2, 3, 4, 5, 6, 7, 8, 9] rfl)
                                    | succ n ih =>
                                      intro k_95 v10_95 hk_95 H locs ls hB_93 hP hD hS hl
                                      obtain ⟨S_95, hB_95⟩ : ∃ s9, s_X9_plan_l272_1 a4 τ_93 k_95 v10_95 = s9 := ⟨_, rfl⟩
                                      have hB_93 : s_X9_plan_c272_1 a1 a2 a3 a4 v8_93 τ_93 (iterC1 (s_X9_plan_l272_1 a4 τ_93) n k_95 v10_95 S_95) = S_93 := by rw [← hB_95]; exact hB_93
                                      have hB_95 : (if v10_95 = (0 : Int32) then none else (some (s_X9_mayTake τ_93 ((nI k_95) / (2 : Int32)) (τ_93 47 k_95) a4))) = S_95 := hB_95
                                      refine lv_iload hx hb dX9_plan_272 (lv_at hl 0 rfl) ?_
                                      refine lv_iload hx hb dX9_plan_274 (lv_at hl 3 rfl) ?_
                                      refine lv_icmp_ge (tgt := 310) hx hb dX9_plan_276 (by decide) (fun c_116 => absurd c_116 (ge_go hk_95)) (fun _ => ?_)
                                      refine lv_iload hx hb dX9_plan_279 (lv_at hl 1 rfl) ?_
                                      refine lv_if_eq (tgt := 310) hx hb dX9_plan_281 (by decide) (fun c_117 => ?_) (fun c_117 => ?_)
                                      · have hB_95 := (if_pos c_117).symm.trans hB_95
                                        subst hB_95
                                        exact hE_95 v10_95 _ _ _ hB_93 hP hD hS (lv_sub hl [1, 2, 3, 4, 5, 6, 7, 8, 9] rfl)
                                      · have hB_95 := (if_neg c_117).symm.trans hB_95
                                        refine lv_aload_n hx hb dX9_plan_284 rfl (lv_at hl 5 rfl) ?_
                                        refine lv_iload hx hb dX9_plan_285 (lv_at hl 0 rfl) ?_
                                        refine lv_iload hx hb dX9_plan_287 (lv_at hl 4 rfl) ?_
                                        refine lv_idiv hx hb dX9_plan_289 (by decide) ?_
                                        refine lv_aload_n hx hb dX9_plan_290 rfl (lv_at hl 5 rfl) ?_
                                        refine va_get (D := D) (ci := 9) (v := .ref (ad 47)) (C := RX9) (T := TX9) (N := 51) hx hb hts hu9 hown hK hP 0 wm_0 rfl 47 (by decide) (hts (.fieldLink RX9 116 "GrazeBookModel" "trial" "[I") (List.mem_cons_of_mem _ mw_830)) (fun _ h9 => h9) rfl dX9_plan_291 ?_
                                        refine lv_iload hx hb dX9_plan_294 (lv_at hl 0 rfl) ?_
                                        refine va_iald_k (k := k_95) (v := (τ_93 47 k_95)) hx hb hK hP 36 0 wm_a47 rfl (ix_cl hk_95) rfl (ix_loop (N := 8) hk_95 (plc_ok (pl_ok (n := 2) (m := 2) (by decide) (not_lt0 c_77) (le_i (not_lt0 c_81) (by decide)) (not_lt0 c_84) c_87)) (by decide) (by decide)) dX9_plan_296 ?_
                                        refine lv_iload hx hb dX9_plan_297 (lv_at hl 9 rfl) ?_
                                        have hF := pw_free hD hS hA
                                        refine va_calli (va_runV (As := [.int ((nI k_95) / (2 : Int32)), .int (τ_93 47 k_95), .int a4]) (rest := []) ⟨hx, hb, hml, hown, hts⟩ (k_X9_mayTake l D ca h ad τ_93 ((nI k_95) / (2 : Int32)) (τ_93 47 k_95) a4 H.size hI_93 (tr_at ht_93 (ir_2 hI) (k_ltm hk_95)) _ rfl) (cwV 3 hts gX9_plan_X9_mayTake rfl rfl rfl (by decide +kernel) ⟨Nat.le_of_ble_eq_true rfl, Nat.le_of_ble_eq_true rfl⟩) ⟨pw_blind, va_recv hK hP (ci := 9) (q0 := 0) rfl wm_0, pw_give hP hK hD⟩ rfl rfl hl.1 rfl (lv_room (Nat.le_of_ble_eq_true rfl)) dX9_plan_299 ⟨Nat.le_of_ble_eq_true rfl, Nat.le_of_ble_eq_true rfl⟩) hS (fun q _ h => hF q h) hF (fun r_118 u t H1 locs ht hvm hw hB hz1 hk1 hS => ?_)
                                        subst hw
                                        obtain ⟨hP, hD⟩ := pw_back hF ht hB
                                        clear hB hk1 hz1 hF
                                        generalize H1 = H at hP hS ⊢
                                        refine lv_istore (lv' := [(10, .int (s_X9_mayTake τ_93 ((nI k_95) / (2 : Int32)) (τ_93 47 k_95) a4)), (11, .int (nI k_95)), (8, .int v8_93), (7, .int ((2 : Int32) * a3)), (5, .int (2 : Int32)), (0, .ref h), (1, .int a1), (2, .int a2), (3, .int a3), (4, .int a4)]) hx hb dX9_plan_302 hl (by decide) rfl (fun ls hl => ?_)
                                        refine lv_iinc (v := (nI (k_95 + 1))) (lv' := [(11, .int (nI (k_95 + 1))), (10, .int (s_X9_mayTake τ_93 ((nI k_95) / (2 : Int32)) (τ_93 47 k_95) a4)), (8, .int v8_93), (7, .int ((2 : Int32) * a3)), (5, .int (2 : Int32)), (0, .ref h), (1, .int a1), (2, .int a2), (3, .int a3), (4, .int a4)]) hx hb dX9_plan_304 hl (k := 1) rfl (by rw [show Int32.ofInt 1 = 1 from by decide]; exact nI_1 _) (by decide) rfl (fun ls hl => ?_)
                                        refine lv_goto (tgt := 272) hx hb dX9_plan_307 (by decide) ?_
                                        subst hB_95
                                        exact ih (k_95 + 1) (s_X9_mayTake τ_93 ((nI k_95) / (2 : Int32)) (τ_93 47 k_95) a4) (ge_next hk_95)  _ _ _ hB_93 hP hD hS (lv_sub hl [0, 1, 2, 3, 4, 5, 6, 7, 8, 9] rfl)
                                  exact hL_95 _ 0 (1 : Int32) ⟨rfl, by decide⟩  _ _ _ hB_93 hP hD hS (lv_sub hl [0, 1, 3, 4, 5, 6, 7, 8, 9, 10] rfl)
                            exact hL_93 (1 + (σ 2 0).toNatClampNeg ^ ((2 : Int32) * a3).toNatClampNeg) 0 (1 : Int32) (-1 : Int32) τ_92 hI_92 hf1_92 hf2_92 (okT_zero hz_92 (hg_89 c_90)) ms_start _ _ _ hR hP hD hS (lv_sub hl [0, 1, 2, 3, 4, 5, 6, 7, 8] rfl)
                          have hL_92 : ∀ (n k_92 : Nat) (τ_92 : St) (hk_92 : lpk ((2 : Int32) * a3) k_92 n) (hI_92 : IR τ_92) (hf1_92 : τ_92 1 = σ 1) (hf2_92 : τ_92 2 = σ 2) (hz_92 : ∀ j : Nat, j < k_92 → τ_92 47 j = 0) (H : Heap) (locs : List Loc) (ls : Array Slot), s_X9_plan_c237_1 σ a1 a2 a3 a4 (iter s_X9_plan_l237_1 n k_92 τ_92) = R → va_P D vwCl (WM ca h ad τ_92) H → va_D A (WM ca h ad τ_92) → va_S A s.heap H locs → lv_has ls 13 [(9, .int (nI k_92)), (8, .int (-1 : Int32)), (7, .int ((2 : Int32) * a3)), (5, .int (2 : Int32)), (0, .ref h), (1, .int a1), (2, .int a2), (3, .int a3), (4, .int a4)] → W p l e ((headSpec wsX9_plan ({ frames := 5, cells := 0, slots := 0, locals := 131 })).room) s m ([.ref h, .int a1, .int a2, .int a3, .int a4] : List Value).toArray below meth c H locs 0 0 QQ (F0 m 237 ls []) := by
                            intro n
                            induction n with
                            | zero =>
                              intro k_92 τ_92 hk_92 hI_92 hf1_92 hf2_92 hz_92 H locs ls hR hP hD hS hl
                              refine lv_iload hx hb dX9_plan_237 (lv_at hl 0 rfl) ?_
                              refine lv_iload hx hb dX9_plan_239 (lv_at hl 2 rfl) ?_
                              refine lv_icmp_ge (tgt := 258) hx hb dX9_plan_241 (by decide) (fun _ => ?_) (fun c_119 => absurd (ge_end hk_92) c_119)
                              exact hE_92 τ_92 hI_92 hf1_92 hf2_92 (fun j hj => hz_92 j (Nat.lt_of_lt_of_le hj (k_le0m hk_92))) _ _ _ hR hP hD hS (lv_sub hl [1, 2, 3, 4, 5, 6, 7, 8] rfl)
                            | succ n ih =>
                              intro k_92 τ_92 hk_92 hI_92 hf1_92 hf2_92 hz_92 H locs ls hR hP hD hS hl
                              obtain ⟨S_92, hB_92⟩ : ∃ s9, s_X9_plan_l237_1 k_92 τ_92 = s9 := ⟨_, rfl⟩
                              have hR : s_X9_plan_c237_1 σ a1 a2 a3 a4 (iter s_X9_plan_l237_1 n (k_92 + 1) S_92) = R := by rw [← hB_92]; exact hR
                              have hB_92 : (put τ_92 47 k_92 (0 : Int32)) = S_92 := hB_92
                              refine lv_iload hx hb dX9_plan_237 (lv_at hl 0 rfl) ?_
                              refine lv_iload hx hb dX9_plan_239 (lv_at hl 2 rfl) ?_
                              refine lv_icmp_ge (tgt := 258) hx hb dX9_plan_241 (by decide) (fun c_120 => absurd c_120 (ge_go hk_92)) (fun _ => ?_)
                              refine lv_aload_n hx hb dX9_plan_244 rfl (lv_at hl 4 rfl) ?_
                              refine va_get (D := D) (ci := 9) (v := .ref (ad 47)) (C := RX9) (T := TX9) (N := 51) hx hb hts hu9 hown hK hP 0 wm_0 rfl 47 (by decide) (hts (.fieldLink RX9 116 "GrazeBookModel" "trial" "[I") (List.mem_cons_of_mem _ mw_830)) (fun _ h9 => h9) rfl dX9_plan_245 ?_
                              refine lv_iload hx hb dX9_plan_248 (lv_at hl 0 rfl) ?_
                              refine lv_iconst (v := (0 : Int32)) hx hb dX9_plan_250 (by decide) ?_
                              refine va_iast_k (k := k_92) hx hb hK hP hD hS 36 0 wm_a47 rfl (ix_cl hk_92) (ix_loop (N := 8) hk_92 (plc_ok (pl_ok (n := 2) (m := 2) (by decide) (not_lt0 c_77) (le_i (not_lt0 c_81) (by decide)) (not_lt0 c_84) c_87)) (by decide) (by decide)) dX9_plan_251 (fun H locs hP hD hS => ?_)
                              rw [wm_s47] at hP hD
                              refine lv_iinc (v := (nI (k_92 + 1))) (lv' := [(9, .int (nI (k_92 + 1))), (8, .int (-1 : Int32)), (7, .int ((2 : Int32) * a3)), (5, .int (2 : Int32)), (0, .ref h), (1, .int a1), (2, .int a2), (3, .int a3), (4, .int a4)]) hx hb dX9_plan_252 hl (k := 0) rfl (by rw [show Int32.ofInt 1 = 1 from by decide]; exact nI_1 _) (by decide) rfl (fun ls hl => ?_)
                              refine lv_goto (tgt := 237) hx hb dX9_plan_255 (by decide) ?_
                              subst hB_92
                              exact ih (k_92 + 1) (put τ_92 47 k_92 (0 : Int32)) (ge_next hk_92) hI_92 hf1_92 hf2_92 (z_next hz_92) _ _ _ hR hP hD hS (lv_sub hl [0, 1, 2, 3, 4, 5, 6, 7, 8] rfl)
                          exact hL_92 _ 0 σ ⟨rfl, by decide⟩ hI rfl rfl (fun j hj => absurd hj (Nat.not_lt_zero j)) _ _ _ hR hP hD hS (lv_sub hl [0, 1, 2, 4, 5, 6, 7, 8, 9] rfl)
                        · have hR := (if_neg c_91).symm.trans hR
                          refine lv_aload_n hx hb dX9_plan_218 rfl (lv_at hl 2 rfl) ?_
                          refine lv_bipush (v := (-6 : Int32)) hx hb dX9_plan_219 (by decide) ?_
                          have hF := pw_free hD hS hA
                          refine va_calli (va_runV (As := [.int (-6 : Int32)]) (rest := []) ⟨hx, hb, hml, hown, hts⟩ (k_X9_refuse l D ca h ad σ (-6 : Int32) H.size hI (by unfold vp_in; decide) _ rfl) (cwV 1 hts gX9_plan_X9_refuse rfl rfl rfl (by decide +kernel) ⟨Nat.le_of_ble_eq_true rfl, Nat.le_of_ble_eq_true rfl⟩) ⟨pw_blind, va_recv hK hP (ci := 9) (q0 := 0) rfl wm_0, pw_give hP hK hD⟩ rfl rfl hl.1 rfl (lv_room (Nat.le_of_ble_eq_true rfl)) dX9_plan_221 ⟨Nat.le_of_ble_eq_true rfl, Nat.le_of_ble_eq_true rfl⟩) hS (fun q _ h => hF q h) hF (fun r_121 u t H1 locs ht hvm hw hB hz1 hk1 hS => ?_)
                          subst hw
                          obtain ⟨hB, hI_122⟩ := hB
                          obtain ⟨hP, hD⟩ := pw_back hF ht hB
                          clear hB hk1 hz1 hF
                          generalize H1 = H at hP hS ⊢
                          have hI9 : IR ((s_X9_refuse σ (-6 : Int32)).2) := hI_122
                          subst hR
                          rw [hQ]
                          exact W.iret (v := ((s_X9_refuse σ (-6 : Int32)).1)) hx hb hr (fun t ht hW => ⟨⟨((s_X9_refuse σ (-6 : Int32)).1), (), rfl, rfl, ⟨by rw [ht]; exact hP, va_K.moved hW.alike hK, by rw [← hAe]; exact hD⟩, hI9⟩, hS.F ht⟩) hS.2.2 dX9_plan_224
                      · have hR := (if_pos c_90).symm.trans hR
                        refine lv_aload_n hx hb dX9_plan_196 rfl (lv_at hl 2 rfl) ?_
                        refine lv_bipush (v := (-3 : Int32)) hx hb dX9_plan_197 (by decide) ?_
                        have hF := pw_free hD hS hA
                        refine va_calli (va_runV (As := [.int (-3 : Int32)]) (rest := []) ⟨hx, hb, hml, hown, hts⟩ (k_X9_refuse l D ca h ad σ (-3 : Int32) H.size hI (by unfold vp_in; decide) _ rfl) (cwV 1 hts gX9_plan_X9_refuse rfl rfl rfl (by decide +kernel) ⟨Nat.le_of_ble_eq_true rfl, Nat.le_of_ble_eq_true rfl⟩) ⟨pw_blind, va_recv hK hP (ci := 9) (q0 := 0) rfl wm_0, pw_give hP hK hD⟩ rfl rfl hl.1 rfl (lv_room (Nat.le_of_ble_eq_true rfl)) dX9_plan_199 ⟨Nat.le_of_ble_eq_true rfl, Nat.le_of_ble_eq_true rfl⟩) hS (fun q _ h => hF q h) hF (fun r_123 u t H1 locs ht hvm hw hB hz1 hk1 hS => ?_)
                        subst hw
                        obtain ⟨hB, hI_124⟩ := hB
                        obtain ⟨hP, hD⟩ := pw_back hF ht hB
                        clear hB hk1 hz1 hF
                        generalize H1 = H at hP hS ⊢
                        have hI9 : IR ((s_X9_refuse σ (-3 : Int32)).2) := hI_124
                        subst hR
                        rw [hQ]
                        exact W.iret (v := ((s_X9_refuse σ (-3 : Int32)).1)) hx hb hr (fun t ht hW => ⟨⟨((s_X9_refuse σ (-3 : Int32)).1), (), rfl, rfl, ⟨by rw [ht]; exact hP, va_K.moved hW.alike hK, by rw [← hAe]; exact hD⟩, hI9⟩, hS.F ht⟩) hS.2.2 dX9_plan_202
                    have hL_89 : ∀ (n k_89 : Nat) (v6_89 : Int32) (hk_89 : lpk a3 k_89 n) (hg_89 : ¬ v6_89 = (0 : Int32) → k_89 = 0 ∨ 0 < (σ 2 0).toNatClampNeg) (H : Heap) (locs : List Loc) (ls : Array Slot), s_X9_plan_c124_1 σ a1 a2 a3 a4 (iterC (s_X9_plan_l124_1 σ a4) n k_89 v6_89) = R → va_P D vwCl (WM ca h ad σ) H → va_D A (WM ca h ad σ) → va_S A s.heap H locs → lv_has ls 13 [(7, .int (nI k_89)), (6, .int v6_89), (5, .int (2 : Int32)), (0, .ref h), (1, .int a1), (2, .int a2), (3, .int a3), (4, .int a4)] → W p l e ((headSpec wsX9_plan ({ frames := 5, cells := 0, slots := 0, locals := 131 })).room) s m ([.ref h, .int a1, .int a2, .int a3, .int a4] : List Value).toArray below meth c H locs 0 0 QQ (F0 m 124 ls []) := by
                      intro n
                      induction n with
                      | zero =>
                        intro k_89 v6_89 hk_89 hg_89 H locs ls hR hP hD hS hl
                        refine lv_iload hx hb dX9_plan_124 (lv_at hl 0 rfl) ?_
                        refine lv_iload_n hx hb dX9_plan_126 rfl (lv_at hl 6 rfl) ?_
                        refine lv_icmp_ge (tgt := 191) hx hb dX9_plan_127 (by decide) (fun _ => ?_) (fun c_125 => absurd (ge_end hk_89) c_125)
                        exact hE_89 v6_89 (fun h9 => by first | exact absurd (show v6_89 = (0 : Int32) by assumption) h9 | exact (hg_89 h9).resolve_left (ne_k0 hk_89 (not_lt0 c_77))) _ _ _ hR hP hD hS (lv_sub hl [1, 2, 3, 4, 5, 6, 7] rfl)
                      | succ n ih =>
                        intro k_89 v6_89 hk_89 hg_89 H locs ls hR hP hD hS hl
                        obtain ⟨S_89, hB_89⟩ : ∃ s9, s_X9_plan_l124_1 σ a4 k_89 v6_89 = s9 := ⟨_, rfl⟩
                        have hR : s_X9_plan_c124_1 σ a1 a2 a3 a4 (iterC1 (s_X9_plan_l124_1 σ a4) n k_89 v6_89 S_89) = R := by rw [← hB_89]; exact hR
                        have hB_89 : (if v6_89 = (0 : Int32) then none else (s_X9_plan_c141_1 (iter (s_X9_plan_l141_1 σ a4 k_89) ((σ 2 0).toNatClampNeg - 0) 0 (0 : Int32)))) = S_89 := hB_89
                        refine lv_iload hx hb dX9_plan_124 (lv_at hl 0 rfl) ?_
                        refine lv_iload_n hx hb dX9_plan_126 rfl (lv_at hl 6 rfl) ?_
                        refine lv_icmp_ge (tgt := 191) hx hb dX9_plan_127 (by decide) (fun c_126 => absurd c_126 (ge_go hk_89)) (fun _ => ?_)
                        refine lv_iload hx hb dX9_plan_130 (lv_at hl 1 rfl) ?_
                        refine lv_if_eq (tgt := 191) hx hb dX9_plan_132 (by decide) (fun c_127 => ?_) (fun c_127 => ?_)
                        · have hB_89 := (if_pos c_127).symm.trans hB_89
                          subst hB_89
                          exact hE_89 v6_89 (fun h9 => by first | exact absurd (show v6_89 = (0 : Int32) by assumption) h9 | exact (hg_89 h9).resolve_left (ne_k0 hk_89 (not_lt0 c_77))) _ _ _ hR hP hD hS (lv_sub hl [1, 2, 3, 4, 5, 6, 7] rfl)
                        · have hB_89 := (if_neg c_127).symm.trans hB_89
                          refine lv_iconst (v := (0 : Int32)) hx hb dX9_plan_135 (by decide) ?_
                          refine lv_istore (lv' := [(8, .int (0 : Int32)), (7, .int (nI k_89)), (6, .int v6_89), (5, .int (2 : Int32)), (0, .ref h), (1, .int a1), (2, .int a2), (3, .int a3), (4, .int a4)]) hx hb dX9_plan_136 hl (by decide) rfl (fun ls hl => ?_)
                          refine lv_iconst (v := (0 : Int32)) hx hb dX9_plan_138 (by decide) ?_
                          refine lv_istore (lv' := [(9, .int (0 : Int32)), (8, .int (0 : Int32)), (7, .int (nI k_89)), (6, .int v6_89), (5, .int (2 : Int32)), (0, .ref h), (1, .int a1), (2, .int a2), (3, .int a3), (4, .int a4)]) hx hb dX9_plan_139 hl (by decide) rfl (fun ls hl => ?_)
                          have hE_128 : ∀ (v8_128 : Int32) (hq_128 : ¬ v8_128 = (0 : Int32) → 0 < (σ 2 0).toNatClampNeg) (H : Heap) (locs : List Loc) (ls : Array Slot), s_X9_plan_c141_1 v8_128 = S_89 → va_P D vwCl (WM ca h ad σ) H → va_D A (WM ca h ad σ) → va_S A s.heap H locs → lv_has ls 13 [(8, .int v8_128), (7, .int (nI k_89)), (5, .int (2 : Int32)), (0, .ref h), (1, .int a1), (2, .int a2), (3, .int a3), (4, .int a4)] → W p l e ((headSpec wsX9_plan ({ frames := 5, cells := 0, slots := 0, locals := 131 })).room) s m ([.ref h, .int a1, .int a2, .int a3, .int a4] : List Value).toArray below meth c H locs 0 0 QQ (F0 m 181 ls []) := by
                            intro v8_128 hq_128 H locs ls hB_89 hP hD hS hl
                            have hB_89 : (some v8_128) = S_89 := hB_89
                            refine lv_iload hx hb dX9_plan_181 (lv_at hl 0 rfl) ?_
                            refine lv_istore (lv' := [(6, .int v8_128), (8, .int v8_128), (7, .int (nI k_89)), (5, .int (2 : Int32)), (0, .ref h), (1, .int a1), (2, .int a2), (3, .int a3), (4, .int a4)]) hx hb dX9_plan_183 hl (by decide) rfl (fun ls hl => ?_)
                            refine lv_iinc (v := (nI (k_89 + 1))) (lv' := [(7, .int (nI (k_89 + 1))), (6, .int v8_128), (8, .int v8_128), (5, .int (2 : Int32)), (0, .ref h), (1, .int a1), (2, .int a2), (3, .int a3), (4, .int a4)]) hx hb dX9_plan_185 hl (k := 2) rfl (by rw [show Int32.ofInt 1 = 1 from by decide]; exact nI_1 _) (by decide) rfl (fun ls hl => ?_)
                            refine lv_goto (tgt := 124) hx hb dX9_plan_188 (by decide) ?_
                            subst hB_89
                            exact ih (k_89 + 1) v8_128 (ge_next hk_89) (fun h => Or.inr (hq_128 h)) _ _ _ hR hP hD hS (lv_sub hl [0, 1, 3, 4, 5, 6, 7, 8] rfl)
                          have hL_128 : ∀ (n k_128 : Nat) (v8_128 : Int32) (hk_128 : lpk (σ 2 0) k_128 n) (hq_128 : ¬ v8_128 = (0 : Int32) → 0 < (σ 2 0).toNatClampNeg) (H : Heap) (locs : List Loc) (ls : Array Slot), s_X9_plan_c141_1 (iter (s_X9_plan_l141_1 σ a4 k_89) n k_128 v8_128) = S_89 → va_P D vwCl (WM ca h ad σ) H → va_D A (WM ca h ad σ) → va_S A s.heap H locs → lv_has ls 13 [(9, .int (nI k_128)), (8, .int v8_128), (7, .int (nI k_89)), (5, .int (2 : Int32)), (0, .ref h), (1, .int a1), (2, .int a2), (3, .int a3), (4, .int a4)] → W p l e ((headSpec wsX9_plan ({ frames := 5, cells := 0, slots := 0, locals := 131 })).room) s m ([.ref h, .int a1, .int a2, .int a3, .int a4] : List Value).toArray below meth c H locs 0 0 QQ (F0 m 141 ls []) := by
                            intro n
                            induction n with
                            | zero =>
                              intro k_128 v8_128 hk_128 hq_128 H locs ls hB_89 hP hD hS hl
                              refine lv_iload hx hb dX9_plan_141 (lv_at hl 0 rfl) ?_
                              refine lv_aload_n hx hb dX9_plan_143 rfl (lv_at hl 4 rfl) ?_
                              refine va_get (D := D) (ci := 9) (v := .int (σ 2 0)) (C := RX9) (T := TX9) (N := 51) hx hb hts hu9 hown hK hP 0 wm_0 rfl 2 (by decide) (hts (.fieldLink RX9 127 "GrazeBookModel" "pieces" "I") (List.mem_cons_of_mem _ mw_785)) (fun _ h9 => h9) rfl dX9_plan_144 ?_
                              refine lv_icmp_ge (tgt := 181) hx hb dX9_plan_147 (by decide) (fun _ => ?_) (fun c_129 => absurd (ge_end hk_128) c_129)
                              exact hE_128 v8_128 hq_128 _ _ _ hB_89 hP hD hS (lv_sub hl [1, 2, 3, 4, 5, 6, 7, 8] rfl)
                            | succ n ih =>
                              intro k_128 v8_128 hk_128 hq_128 H locs ls hB_89 hP hD hS hl
                              obtain ⟨S_128, hB_128⟩ : ∃ s9, s_X9_plan_l141_1 σ a4 k_89 k_128 v8_128 = s9 := ⟨_, rfl⟩
                              have hB_89 : s_X9_plan_c141_1 (iter (s_X9_plan_l141_1 σ a4 k_89) n (k_128 + 1) S_128) = S_89 := by rw [← hB_128]; exact hB_89
                              have hB_128 : (if v8_128 = (0 : Int32) then (if (s_X9_mayTake σ (nI k_89) (nI k_128) a4) = (0 : Int32) then (0 : Int32) else (1 : Int32)) else (1 : Int32)) = S_128 := hB_128
                              refine lv_iload hx hb dX9_plan_141 (lv_at hl 0 rfl) ?_
                              refine lv_aload_n hx hb dX9_plan_143 rfl (lv_at hl 4 rfl) ?_
                              refine va_get (D := D) (ci := 9) (v := .int (σ 2 0)) (C := RX9) (T := TX9) (N := 51) hx hb hts hu9 hown hK hP 0 wm_0 rfl 2 (by decide) (hts (.fieldLink RX9 127 "GrazeBookModel" "pieces" "I") (List.mem_cons_of_mem _ mw_785)) (fun _ h9 => h9) rfl dX9_plan_144 ?_
                              refine lv_icmp_ge (tgt := 181) hx hb dX9_plan_147 (by decide) (fun c_130 => absurd c_130 (ge_go hk_128)) (fun _ => ?_)
                              refine lv_iload hx hb dX9_plan_150 (lv_at hl 1 rfl) ?_
                              refine lv_if_ne (tgt := 168) hx hb dX9_plan_152 (by decide) (fun c_131 => ?_) (fun c_131 => ?_)
                              · have hB_128 := (if_neg c_131).symm.trans hB_128
                                refine lv_iconst (v := (1 : Int32)) hx hb dX9_plan_168 (by decide) ?_
                                refine lv_goto (tgt := 173) hx hb dX9_plan_169 (by decide) ?_
                                refine lv_istore (lv' := [(8, .int (1 : Int32)), (9, .int (nI k_128)), (7, .int (nI k_89)), (5, .int (2 : Int32)), (0, .ref h), (1, .int a1), (2, .int a2), (3, .int a3), (4, .int a4)]) hx hb dX9_plan_173 hl (by decide) rfl (fun ls hl => ?_)
                                refine lv_iinc (v := (nI (k_128 + 1))) (lv' := [(9, .int (nI (k_128 + 1))), (8, .int (1 : Int32)), (7, .int (nI k_89)), (5, .int (2 : Int32)), (0, .ref h), (1, .int a1), (2, .int a2), (3, .int a3), (4, .int a4)]) hx hb dX9_plan_175 hl (k := 1) rfl (by rw [show Int32.ofInt 1 = 1 from by decide]; exact nI_1 _) (by decide) rfl (fun ls hl => ?_)
                                refine lv_goto (tgt := 141) hx hb dX9_plan_178 (by decide) ?_
                                subst hB_128
                                exact ih (k_128 + 1) (1 : Int32) (ge_next hk_128) (fun _ => Nat.lt_of_le_of_lt (Nat.zero_le _) (k_ltm hk_128)) _ _ _ hB_89 hP hD hS (lv_sub hl [0, 1, 2, 3, 4, 5, 6, 7, 8] rfl)
                              · have hB_128 := (if_pos c_131).symm.trans hB_128
                                refine lv_aload_n hx hb dX9_plan_155 rfl (lv_at hl 4 rfl) ?_
                                refine lv_iload hx hb dX9_plan_156 (lv_at hl 2 rfl) ?_
                                refine lv_iload hx hb dX9_plan_158 (lv_at hl 0 rfl) ?_
                                refine lv_iload hx hb dX9_plan_160 (lv_at hl 8 rfl) ?_
                                have hF := pw_free hD hS hA
                                refine va_calli (va_runV (As := [.int (nI k_89), .int (nI k_128), .int a4]) (rest := []) ⟨hx, hb, hml, hown, hts⟩ (k_X9_mayTake l D ca h ad σ (nI k_89) (nI k_128) a4 H.size hI (ix_loop (N := 6) hk_128 (ir_2 hI) (by decide) (by decide)) _ rfl) (cwV 3 hts gX9_plan_X9_mayTake rfl rfl rfl (by decide +kernel) ⟨Nat.le_of_ble_eq_true rfl, Nat.le_of_ble_eq_true rfl⟩) ⟨pw_blind, va_recv hK hP (ci := 9) (q0 := 0) rfl wm_0, pw_give hP hK hD⟩ rfl rfl hl.1 rfl (lv_room (Nat.le_of_ble_eq_true rfl)) dX9_plan_162 ⟨Nat.le_of_ble_eq_true rfl, Nat.le_of_ble_eq_true rfl⟩) hS (fun q _ h => hF q h) hF (fun r_132 u t H1 locs ht hvm hw hB hz1 hk1 hS => ?_)
                                subst hw
                                obtain ⟨hP, hD⟩ := pw_back hF ht hB
                                clear hB hk1 hz1 hF
                                generalize H1 = H at hP hS ⊢
                                refine lv_if_eq (tgt := 172) hx hb dX9_plan_165 (by decide) (fun c_133 => ?_) (fun c_133 => ?_)
                                · have hB_128 := (if_pos c_133).symm.trans hB_128
                                  refine lv_iconst (v := (0 : Int32)) hx hb dX9_plan_172 (by decide) ?_
                                  refine lv_istore (lv' := [(8, .int (0 : Int32)), (9, .int (nI k_128)), (7, .int (nI k_89)), (5, .int (2 : Int32)), (0, .ref h), (1, .int a1), (2, .int a2), (3, .int a3), (4, .int a4)]) hx hb dX9_plan_173 hl (by decide) rfl (fun ls hl => ?_)
                                  refine lv_iinc (v := (nI (k_128 + 1))) (lv' := [(9, .int (nI (k_128 + 1))), (8, .int (0 : Int32)), (7, .int (nI k_89)), (5, .int (2 : Int32)), (0, .ref h), (1, .int a1), (2, .int a2), (3, .int a3), (4, .int a4)]) hx hb dX9_plan_175 hl (k := 1) rfl (by rw [show Int32.ofInt 1 = 1 from by decide]; exact nI_1 _) (by decide) rfl (fun ls hl => ?_)
                                  refine lv_goto (tgt := 141) hx hb dX9_plan_178 (by decide) ?_
                                  subst hB_128
                                  exact ih (k_128 + 1) (0 : Int32) (ge_next hk_128) (fun _ => Nat.lt_of_le_of_lt (Nat.zero_le _) (k_ltm hk_128)) _ _ _ hB_89 hP hD hS (lv_sub hl [0, 1, 2, 3, 4, 5, 6, 7, 8] rfl)
                                · have hB_128 := (if_neg c_133).symm.trans hB_128
                                  refine lv_iconst (v := (1 : Int32)) hx hb dX9_plan_168 (by decide) ?_
                                  refine lv_goto (tgt := 173) hx hb dX9_plan_169 (by decide) ?_
                                  refine lv_istore (lv' := [(8, .int (1 : Int32)), (9, .int (nI k_128)), (7, .int (nI k_89)), (5, .int (2 : Int32)), (0, .ref h), (1, .int a1), (2, .int a2), (3, .int a3), (4, .int a4)]) hx hb dX9_plan_173 hl (by decide) rfl (fun ls hl => ?_)
                                  refine lv_iinc (v := (nI (k_128 + 1))) (lv' := [(9, .int (nI (k_128 + 1))), (8, .int (1 : Int32)), (7, .int (nI k_89)), (5, .int (2 : Int32)), (0, .ref h), (1, .int a1), (2, .int a2), (3, .int a3), (4, .int a4)]) hx hb dX9_plan_175 hl (k := 1) rfl (by rw [show Int32.ofInt 1 = 1 from by decide]; exact nI_1 _) (by decide) rfl (fun ls hl => ?_)
                                  refine lv_goto (tgt := 141) hx hb dX9_plan_178 (by decide) ?_
                                  subst hB_128
                                  exact ih (k_128 + 1) (1 : Int32) (ge_next hk_128) (fun _ => Nat.lt_of_le_of_lt (Nat.zero_le _) (k_ltm hk_128)) _ _ _ hB_89 hP hD hS (lv_sub hl [0, 1, 2, 3, 4, 5, 6, 7, 8] rfl)
                          exact hL_128 _ 0 (0 : Int32) ⟨rfl, by decide⟩ (fun h => absurd rfl h) _ _ _ hB_89 hP hD hS (lv_sub hl [0, 1, 2, 4, 5, 6, 7, 8, 9] rfl)
                    exact hL_89 _ 0 y0_88 ⟨rfl, by decide⟩ (fun _ => Or.inl rfl) _ _ _ hR hP hD hS (lv_sub hl [0, 1, 2, 3, 4, 5, 6, 7] rfl)
                  refine lv_if_ne (tgt := 118) hx hb dX9_plan_96 (by decide) (fun c_134 => ?_) (fun c_134 => ?_)
                  · have hR := (if_neg c_134).symm.trans hR
                    refine lv_iconst (v := (0 : Int32)) hx hb dX9_plan_118 (by decide) ?_
                    exact hJ_88 (0 : Int32) _ _ _ hR hP hD hS (lv_sub hl [0, 1, 2, 3, 4, 5] rfl)
                  · have hR := (if_pos c_134).symm.trans hR
                    refine lv_iload hx hb dX9_plan_99 (lv_at hl 0 rfl) ?_
                    refine lv_iconst (v := (1 : Int32)) hx hb dX9_plan_101 (by decide) ?_
                    refine lv_icmp_eq (tgt := 114) hx hb dX9_plan_102 (by decide) (fun c_135 => absurd c_135 (by decide)) (fun _ => ?_)
                    refine lv_aload_n hx hb dX9_plan_105 rfl (lv_at hl 1 rfl) ?_
                    refine va_get (D := D) (ci := 9) (v := .ref (ad 41)) (C := RX9) (T := TX9) (N := 51) hx hb hts hu9 hown hK hP 0 wm_0 rfl 41 (by decide) (hts (.fieldLink RX9 98 "GrazeBookModel" "hState" "[I") (List.mem_cons_of_mem _ mw_824)) (fun _ h9 => h9) rfl dX9_plan_106 ?_
                    refine lv_iload_n hx hb dX9_plan_109 rfl (lv_at hl 3 rfl) ?_
                    refine va_iald_k (k := (a2.toNatClampNeg)) (v := (σ 41 (a2.toNatClampNeg))) hx hb hK hP 30 0 wm_a41 rfl rfl rfl (ix_isIn c_72 (ir_6 hI)) dX9_plan_110 ?_
                    refine lv_if_ne (tgt := 118) hx hb dX9_plan_111 (by decide) (fun c_136 => ?_) (fun c_136 => ?_)
                    · have hR := (if_neg c_136).symm.trans hR
                      refine lv_iconst (v := (0 : Int32)) hx hb dX9_plan_118 (by decide) ?_
                      exact hJ_88 (0 : Int32) _ _ _ hR hP hD hS (lv_sub hl [0, 1, 2, 3, 4, 5] rfl)
                    · have hR := (if_pos c_136).symm.trans hR
                      refine lv_iconst (v := (1 : Int32)) hx hb dX9_plan_114 (by decide) ?_
                      refine lv_goto (tgt := 119) hx hb dX9_plan_115 (by decide) ?_
                      exact hJ_88 (1 : Int32) _ _ _ hR hP hD hS (lv_sub hl [0, 1, 2, 3, 4, 5] rfl)
                · have hR := (if_neg c_87).symm.trans hR
                  refine lv_aload_n hx hb dX9_plan_83 rfl (lv_at hl 1 rfl) ?_
                  refine lv_bipush (v := (-2 : Int32)) hx hb dX9_plan_84 (by decide) ?_
                  have hF := pw_free hD hS hA
                  refine va_calli (va_runV (As := [.int (-2 : Int32)]) (rest := []) ⟨hx, hb, hml, hown, hts⟩ (k_X9_refuse l D ca h ad σ (-2 : Int32) H.size hI (by unfold vp_in; decide) _ rfl) (cwV 1 hts gX9_plan_X9_refuse rfl rfl rfl (by decide +kernel) ⟨Nat.le_of_ble_eq_true rfl, Nat.le_of_ble_eq_true rfl⟩) ⟨pw_blind, va_recv hK hP (ci := 9) (q0 := 0) rfl wm_0, pw_give hP hK hD⟩ rfl rfl hl.1 rfl (lv_room (Nat.le_of_ble_eq_true rfl)) dX9_plan_86 ⟨Nat.le_of_ble_eq_true rfl, Nat.le_of_ble_eq_true rfl⟩) hS (fun q _ h => hF q h) hF (fun r_137 u t H1 locs ht hvm hw hB hz1 hk1 hS => ?_)
                  subst hw
                  obtain ⟨hB, hI_138⟩ := hB
                  obtain ⟨hP, hD⟩ := pw_back hF ht hB
                  clear hB hk1 hz1 hF
                  generalize H1 = H at hP hS ⊢
                  have hI9 : IR ((s_X9_refuse σ (-2 : Int32)).2) := hI_138
                  subst hR
                  rw [hQ]
                  exact W.iret (v := ((s_X9_refuse σ (-2 : Int32)).1)) hx hb hr (fun t ht hW => ⟨⟨((s_X9_refuse σ (-2 : Int32)).1), (), rfl, rfl, ⟨by rw [ht]; exact hP, va_K.moved hW.alike hK, by rw [← hAe]; exact hD⟩, hI9⟩, hS.F ht⟩) hS.2.2 dX9_plan_89
        · have hR := (if_pos c_75).symm.trans hR
          refine lv_aload_n hx hb dX9_plan_32 rfl (lv_at hl 0 rfl) ?_
          refine lv_iconst (v := (-1 : Int32)) hx hb dX9_plan_33 (by decide) ?_
          have hF := pw_free hD hS hA
          refine va_calli (va_runV (As := [.int (-1 : Int32)]) (rest := []) ⟨hx, hb, hml, hown, hts⟩ (k_X9_refuse l D ca h ad σ (-1 : Int32) H.size hI (by unfold vp_in; decide) _ rfl) (cwV 1 hts gX9_plan_X9_refuse rfl rfl rfl (by decide +kernel) ⟨Nat.le_of_ble_eq_true rfl, Nat.le_of_ble_eq_true rfl⟩) ⟨pw_blind, va_recv hK hP (ci := 9) (q0 := 0) rfl wm_0, pw_give hP hK hD⟩ rfl rfl hl.1 rfl (lv_room (Nat.le_of_ble_eq_true rfl)) dX9_plan_34 ⟨Nat.le_of_ble_eq_true rfl, Nat.le_of_ble_eq_true rfl⟩) hS (fun q _ h => hF q h) hF (fun r_139 u t H1 locs ht hvm hw hB hz1 hk1 hS => ?_)
          subst hw
          obtain ⟨hB, hI_140⟩ := hB
          obtain ⟨hP, hD⟩ := pw_back hF ht hB
          clear hB hk1 hz1 hF
          generalize H1 = H at hP hS ⊢
          have hI9 : IR ((s_X9_refuse σ (-1 : Int32)).2) := hI_140
          subst hR
          rw [hQ]
          exact W.iret (v := ((s_X9_refuse σ (-1 : Int32)).1)) hx hb hr (fun t ht hW => ⟨⟨((s_X9_refuse σ (-1 : Int32)).1), (), rfl, rfl, ⟨by rw [ht]; exact hP, va_K.moved hW.alike hK, by rw [← hAe]; exact hD⟩, hI9⟩, hS.F ht⟩) hS.2.2 dX9_plan_37

