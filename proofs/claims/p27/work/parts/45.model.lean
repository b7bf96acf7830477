def s_X9_pass_c35  : (Int32 × St) → Int32 × St := fun x9 => match x9 with
  | (v2_3, τ_3) => (v2_3, (put τ_3 10 0 ((τ_3 10 0) + v2_3)))
def s_X9_pass_c152  : (Int32 × St) → (Int32 × St) := fun x9 => match x9 with
  | (v2_12, τ_12) => (v2_12, (s_X9_lapses (s_X9_sells τ_12)))
def s_X9_pass_l152  (k_12 : Nat) : (Int32 × St) → (Int32 × St) := fun x9 => match x9 with
  | (v2_12, τ_12) => ((v2_12 + (τ_12 43 k_12)), (put τ_12 40 k_12 ((τ_12 40 k_12) + (τ_12 43 k_12))))
def s_X9_pass_c101 (v2_3 : Int32) : St → (Int32 × St) := fun x9 => match x9 with
  | τ_11 => (s_X9_pass_c152 (iter s_X9_pass_l152 ((τ_11 6 0).toNatClampNeg - 0) 0 (v2_3, τ_11)))
def s_X9_pass_l101  (k_11 : Nat) : St → St := fun x9 => match x9 with
  | τ_11 => (put (put τ_11 17 k_11 ((τ_11 17 k_11) + (τ_11 46 k_11))) 11 0 ((τ_11 11 0) + (τ_11 46 k_11)))
def s_X9_pass_c57 (v2_3 : Int32) : St → (Int32 × St) := fun x9 => match x9 with
  | τ_8 => (s_X9_pass_c101 v2_3 (iter s_X9_pass_l101 (((s_X9_goesA τ_8 (τ_8 1 0)) 2 0).toNatClampNeg - 0) 0 (s_X9_goesA τ_8 (τ_8 1 0))))
def s_X9_pass_l57  (k_8 : Nat) : St → St := fun x9 => match x9 with
  | τ_8 => (put τ_8 46 k_8 (0 : Int32))
def s_X9_pass_l35  (k_3 : Nat) : (Int32 × St) → (Int32 × St) := fun x9 => match x9 with
  | (v2_3, τ_3) => (s_X9_pass_c57 v2_3 (iter s_X9_pass_l57 ((6 : Int32).toNatClampNeg - 0) 0 (s_X9_places (put τ_3 1 0 ((τ_3 1 0) + (1 : Int32))))))
def s_X9_pass (σ : St) (a1 : Int32) : Int32 × St := (if (1 : Int32) ≤ a1 then (if a1 ≤ ((720 : Int32) - (σ 1 0)) then (s_X9_pass_c35 (iter s_X9_pass_l35 (a1.toNatClampNeg - 0) 0 ((0 : Int32), σ))) else (((s_X9_refuse σ (-6 : Int32)).1), (s_X9_refuse σ (-6 : Int32)).2)) else (((s_X9_refuse σ (-4 : Int32)).1), (s_X9_refuse σ (-4 : Int32)).2))
theorem fr_s_X9_pass_c35  (s : (Int32 × St)) {f : Nat} (h0 : f ≠ 0) (h1 : f ≠ 1) (h8 : f ≠ 8) (h10 : f ≠ 10) (h11 : f ≠ 11) (h12 : f ≠ 12) (h13 : f ≠ 13) (h17 : f ≠ 17) (h19 : f ≠ 19) (h32 : f ≠ 32) (h33 : f ≠ 33) (h34 : f ≠ 34) (h40 : f ≠ 40) (h41 : f ≠ 41) (h43 : f ≠ 43) (h45 : f ≠ 45) (h46 : f ≠ 46) : (s_X9_pass_c35 s).2 f = s.2 f := by
  obtain ⟨v2_3, τ_3⟩ := s
  unfold s_X9_pass_c35
  all_goals ((try dsimp only) <;> ((repeat' split) <;> (try simp only [put_fr, ne_eq, not_false_eq_true, h0, h1, h8, h10, h11, h12, h13, h17, h19, h32, h33, h34, h40, h41, h43, h45, h46, fr_s_X9_refuse, fr_s_X9_places, fr_s_X9_sells, fr_s_X9_lapses, fr_s_X9_goesA])))
theorem fr_s_X9_pass_c152  (s : (Int32 × St)) {f : Nat} (h0 : f ≠ 0) (h1 : f ≠ 1) (h8 : f ≠ 8) (h10 : f ≠ 10) (h11 : f ≠ 11) (h12 : f ≠ 12) (h13 : f ≠ 13) (h17 : f ≠ 17) (h19 : f ≠ 19) (h32 : f ≠ 32) (h33 : f ≠ 33) (h34 : f ≠ 34) (h40 : f ≠ 40) (h41 : f ≠ 41) (h43 : f ≠ 43) (h45 : f ≠ 45) (h46 : f ≠ 46) : (s_X9_pass_c152 s).2 f = s.2 f := by
  obtain ⟨v2_12, τ_12⟩ := s
  unfold s_X9_pass_c152
  all_goals ((try dsimp only) <;> ((repeat' split) <;> (try simp only [put_fr, ne_eq, not_false_eq_true, h0, h1, h8, h10, h11, h12, h13, h17, h19, h32, h33, h34, h40, h41, h43, h45, h46, fr_s_X9_refuse, fr_s_X9_places, fr_s_X9_sells, fr_s_X9_lapses, fr_s_X9_goesA, fr_s_X9_pass_c35])))
theorem fr_s_X9_pass_l152  (k_12 : Nat) (s : (Int32 × St)) {f : Nat} (h0 : f ≠ 0) (h1 : f ≠ 1) (h8 : f ≠ 8) (h10 : f ≠ 10) (h11 : f ≠ 11) (h12 : f ≠ 12) (h13 : f ≠ 13) (h17 : f ≠ 17) (h19 : f ≠ 19) (h32 : f ≠ 32) (h33 : f ≠ 33) (h34 : f ≠ 34) (h40 : f ≠ 40) (h41 : f ≠ 41) (h43 : f ≠ 43) (h45 : f ≠ 45) (h46 : f ≠ 46) : (s_X9_pass_l152 k_12 s).2 f = s.2 f := by
  obtain ⟨v2_12, τ_12⟩ := s
  unfold s_X9_pass_l152
  all_goals ((try dsimp only) <;> ((repeat' split) <;> (try simp only [put_fr, ne_eq, not_false_eq_true, h0, h1, h8, h10, h11, h12, h13, h17, h19, h32, h33, h34, h40, h41, h43, h45, h46, fr_s_X9_refuse, fr_s_X9_places, fr_s_X9_sells, fr_s_X9_lapses, fr_s_X9_goesA, fr_s_X9_pass_c35, fr_s_X9_pass_c152])))
theorem fri_s_X9_pass_l152  (n k : Nat) (s : (Int32 × St)) {f : Nat} (h0 : f ≠ 0) (h1 : f ≠ 1) (h8 : f ≠ 8) (h10 : f ≠ 10) (h11 : f ≠ 11) (h12 : f ≠ 12) (h13 : f ≠ 13) (h17 : f ≠ 17) (h19 : f ≠ 19) (h32 : f ≠ 32) (h33 : f ≠ 33) (h34 : f ≠ 34) (h40 : f ≠ 40) (h41 : f ≠ 41) (h43 : f ≠ 43) (h45 : f ≠ 45) (h46 : f ≠ 46) : (iter s_X9_pass_l152 n k s).2 f = s.2 f := iter_fr (P := (fun s => s.2 f)) (fun k s => fr_s_X9_pass_l152  k s h0 h1 h8 h10 h11 h12 h13 h17 h19 h32 h33 h34 h40 h41 h43 h45 h46) n k s
theorem fr_s_X9_pass_c101 (v2_3 : Int32) (s : St) {f : Nat} (h0 : f ≠ 0) (h1 : f ≠ 1) (h8 : f ≠ 8) (h10 : f ≠ 10) (h11 : f ≠ 11) (h12 : f ≠ 12) (h13 : f ≠ 13) (h17 : f ≠ 17) (h19 : f ≠ 19) (h32 : f ≠ 32) (h33 : f ≠ 33) (h34 : f ≠ 34) (h40 : f ≠ 40) (h41 : f ≠ 41) (h43 : f ≠ 43) (h45 : f ≠ 45) (h46 : f ≠ 46) : (s_X9_pass_c101 v2_3 s).2 f = s f := by
  unfold s_X9_pass_c101
  all_goals ((try dsimp only) <;> ((repeat' split) <;> (try simp only [put_fr, ne_eq, not_false_eq_true, h0, h1, h8, h10, h11, h12, h13, h17, h19, h32, h33, h34, h40, h41, h43, h45, h46, fr_s_X9_refuse, fr_s_X9_places, fr_s_X9_sells, fr_s_X9_lapses, fr_s_X9_goesA, fr_s_X9_pass_c35, fr_s_X9_pass_c152, fri_s_X9_pass_l152])))
theorem fr_s_X9_pass_l101  (k_11 : Nat) (s : St) {f : Nat} (h0 : f ≠ 0) (h1 : f ≠ 1) (h8 : f ≠ 8) (h10 : f ≠ 10) (h11 : f ≠ 11) (h12 : f ≠ 12) (h13 : f ≠ 13) (h17 : f ≠ 17) (h19 : f ≠ 19) (h32 : f ≠ 32) (h33 : f ≠ 33) (h34 : f ≠ 34) (h40 : f ≠ 40) (h41 : f ≠ 41) (h43 : f ≠ 43) (h45 : f ≠ 45) (h46 : f ≠ 46) : (s_X9_pass_l101 k_11 s) f = s f := by
  unfold s_X9_pass_l101
  all_goals ((try dsimp only) <;> ((repeat' split) <;> (try simp only [put_fr, ne_eq, not_false_eq_true, h0, h1, h8, h10, h11, h12, h13, h17, h19, h32, h33, h34, h40, h41, h43, h45, h46, fr_s_X9_refuse, fr_s_X9_places, fr_s_X9_sells, fr_s_X9_lapses, fr_s_X9_goesA, fr_s_X9_pass_c35, fr_s_X9_pass_c152, fri_s_X9_pass_l152, fr_s_X9_pass_c101])))
theorem fri_s_X9_pass_l101  (n k : Nat) (s : St) {f : Nat} (h0 : f ≠ 0) (h1 : f ≠ 1) (h8 : f ≠ 8) (h10 : f ≠ 10) (h11 : f ≠ 11) (h12 : f ≠ 12) (h13 : f ≠ 13) (h17 : f ≠ 17) (h19 : f ≠ 19) (h32 : f ≠ 32) (h33 : f ≠ 33) (h34 : f ≠ 34) (h40 : f ≠ 40) (h41 : f ≠ 41) (h43 : f ≠ 43) (h45 : f ≠ 45) (h46 : f ≠ 46) : (iter s_X9_pass_l101 n k s) f = s f := iter_fr (P := (fun s => s f)) (fun k s => fr_s_X9_pass_l101  k s h0 h1 h8 h10 h11 h12 h13 h17 h19 h32 h33 h34 h40 h41 h43 h45 h46) n k s
theorem fr_s_X9_pass_c57 (v2_3 : Int32) (s : St) {f : Nat} (h0 : f ≠ 0) (h1 : f ≠ 1) (h8 : f ≠ 8) (h10 : f ≠ 10) (h11 : f ≠ 11) (h12 : f ≠ 12) (h13 : f ≠ 13) (h17 : f ≠ 17) (h19 : f ≠ 19) (h32 : f ≠ 32) (h33 : f ≠ 33) (h34 : f ≠ 34) (h40 : f ≠ 40) (h41 : f ≠ 41) (h43 : f ≠ 43) (h45 : f ≠ 45) (h46 : f ≠ 46) : (s_X9_pass_c57 v2_3 s).2 f = s f := by
  unfold s_X9_pass_c57
  all_goals ((try dsimp only) <;> ((repeat' split) <;> (try simp only [put_fr, ne_eq, not_false_eq_true, h0, h1, h8, h10, h11, h12, h13, h17, h19, h32, h33, h34, h40, h41, h43, h45, h46, fr_s_X9_refuse, fr_s_X9_places, fr_s_X9_sells, fr_s_X9_lapses, fr_s_X9_goesA, fr_s_X9_pass_c35, fr_s_X9_pass_c152, fri_s_X9_pass_l152, fr_s_X9_pass_c101, fri_s_X9_pass_l101])))
theorem fr_s_X9_pass_l57  (k_8 : Nat) (s : St) {f : Nat} (h0 : f ≠ 0) (h1 : f ≠ 1) (h8 : f ≠ 8) (h10 : f ≠ 10) (h11 : f ≠ 11) (h12 : f ≠ 12) (h13 : f ≠ 13) (h17 : f ≠ 17) (h19 : f ≠ 19) (h32 : f ≠ 32) (h33 : f ≠ 33) (h34 : f ≠ 34) (h40 : f ≠ 40) (h41 : f ≠ 41) (h43 : f ≠ 43) (h45 : f ≠ 45) (h46 : f ≠ 46) : (s_X9_pass_l57 k_8 s) f = s f := by
  unfold s_X9_pass_l57
  all_goals ((try dsimp only) <;> ((repeat' split) <;> (try simp only [put_fr, ne_eq, not_false_eq_true, h0, h1, h8, h10, h11, h12, h13, h17, h19, h32, h33, h34, h40, h41, h43, h45, h46, fr_s_X9_refuse, fr_s_X9_places, fr_s_X9_sells, fr_s_X9_lapses, fr_s_X9_goesA, fr_s_X9_pass_c35, fr_s_X9_pass_c152, fri_s_X9_pass_l152, fr_s_X9_pass_c101, fri_s_X9_pass_l101, fr_s_X9_pass_c57])))
theorem fri_s_X9_pass_l57  (n k : Nat) (s : St) {f : Nat} (h0 : f ≠ 0) (h1 : f ≠ 1) (h8 : f ≠ 8) (h10 : f ≠ 10) (h11 : f ≠ 11) (h12 : f ≠ 12) (h13 : f ≠ 13) (h17 : f ≠ 17) (h19 : f ≠ 19) (h32 : f ≠ 32) (h33 : f ≠ 33) (h34 : f ≠ 34) (h40 : f ≠ 40) (h41 : f ≠ 41) (h43 : f ≠ 43) (h45 : f ≠ 45) (h46 : f ≠ 46) : (iter s_X9_pass_l57 n k s) f = s f := iter_fr (P := (fun s => s f)) (fun k s => fr_s_X9_pass_l57  k s h0 h1 h8 h10 h11 h12 h13 h17 h19 h32 h33 h34 h40 h41 h43 h45 h46) n k s
theorem fr_s_X9_pass_l35  (k_3 : Nat) (s : (Int32 × St)) {f : Nat} (h0 : f ≠ 0) (h1 : f ≠ 1) (h8 : f ≠ 8) (h10 : f ≠ 10) (h11 : f ≠ 11) (h12 : f ≠ 12) (h13 : f ≠ 13) (h17 : f ≠ 17) (h19 : f ≠ 19) (h32 : f ≠ 32) (h33 : f ≠ 33) (h34 : f ≠ 34) (h40 : f ≠ 40) (h41 : f ≠ 41) (h43 : f ≠ 43) (h45 : f ≠ 45) (h46 : f ≠ 46) : (s_X9_pass_l35 k_3 s).2 f = s.2 f := by
  obtain ⟨v2_3, τ_3⟩ := s
  unfold s_X9_pass_l35
  all_goals ((try dsimp only) <;> ((repeat' split) <;> (try simp only [put_fr, ne_eq, not_false_eq_true, h0, h1, h8, h10, h11, h12, h13, h17, h19, h32, h33, h34, h40, h41, h43, h45, h46, fr_s_X9_refuse, fr_s_X9_places, fr_s_X9_sells, fr_s_X9_lapses, fr_s_X9_goesA, fr_s_X9_pass_c35, fr_s_X9_pass_c152, fri_s_X9_pass_l152, fr_s_X9_pass_c101, fri_s_X9_pass_l101, fr_s_X9_pass_c57, fri_s_X9_pass_l57])))
theorem fri_s_X9_pass_l35  (n k : Nat) (s : (Int32 × St)) {f : Nat} (h0 : f ≠ 0) (h1 : f ≠ 1) (h8 : f ≠ 8) (h10 : f ≠ 10) (h11 : f ≠ 11) (h12 : f ≠ 12) (h13 : f ≠ 13) (h17 : f ≠ 17) (h19 : f ≠ 19) (h32 : f ≠ 32) (h33 : f ≠ 33) (h34 : f ≠ 34) (h40 : f ≠ 40) (h41 : f ≠ 41) (h43 : f ≠ 43) (h45 : f ≠ 45) (h46 : f ≠ 46) : (iter s_X9_pass_l35 n k s).2 f = s.2 f := iter_fr (P := (fun s => s.2 f)) (fun k s => fr_s_X9_pass_l35  k s h0 h1 h8 h10 h11 h12 h13 h17 h19 h32 h33 h34 h40 h41 h43 h45 h46) n k s
theorem fr_s_X9_pass (σ : St) (a1 : Int32) {f : Nat} (h0 : f ≠ 0) (h1 : f ≠ 1) (h8 : f ≠ 8) (h10 : f ≠ 10) (h11 : f ≠ 11) (h12 : f ≠ 12) (h13 : f ≠ 13) (h17 : f ≠ 17) (h19 : f ≠ 19) (h32 : f ≠ 32) (h33 : f ≠ 33) (h34 : f ≠ 34) (h40 : f ≠ 40) (h41 : f ≠ 41) (h43 : f ≠ 43) (h45 : f ≠ 45) (h46 : f ≠ 46) : (s_X9_pass σ a1 ).2 f = σ f := by
  unfold s_X9_pass
  all_goals ((try dsimp only) <;> ((repeat' split) <;> (try simp only [put_fr, ne_eq, not_false_eq_true, h0, h1, h8, h10, h11, h12, h13, h17, h19, h32, h33, h34, h40, h41, h43, h45, h46, fr_s_X9_refuse, fr_s_X9_places, fr_s_X9_sells, fr_s_X9_lapses, fr_s_X9_goesA, fr_s_X9_pass_c35, fr_s_X9_pass_c152, fri_s_X9_pass_l152, fr_s_X9_pass_c101, fri_s_X9_pass_l101, fr_s_X9_pass_c57, fri_s_X9_pass_l57, fri_s_X9_pass_l35])))
set_option maxHeartbeats 1000000 in
set_option maxRecDepth 100000 in
theorem k_X9_pass (l : Launch) (D : va_G) (ca : Nat → ClassId) (h : Nat) (ad : Nat → Nat) (σ : St) (a1 : Int32) (sz : Nat) (hI : IR σ)  (R : Int32 × St) (hR : s_X9_pass σ a1 = R) : Met l yX9_pass wsX9_pass ({ frames := 4, cells := 0, slots := 0, locals := 103 }) (va_Pc [.ref h, .int a1] (pw_pre D ca (WM ca h ad σ) sz)) (va_Qi (fun (r : Int32) (_ : Unit) => r = R.1) (fun (_ : Unit) (t : State) => pw_post D ca (WM ca h ad σ) sz (WM ca h ad (R.2)) t ∧ IR R.2) (va_A (WM ca h ad σ) sz)) 0 0 (va_A (WM ca h ad σ) sz) := by
  refine Met.ofW (cc := cX9_pass) (maxL := 5) (ret := (some .int)) (by decide) rfl ?_
  intro p e s m args below meth c s₁ B hml hv
  obtain ⟨rfl, hsz, hP, hK, hD0⟩ := hv
  have hx := B.exec
  have hb := B.bytes
  have hr := B.returns
  have hts := atoms_spec (ws := wsX9_pass) B.pre
  have hown : s.vm.findClass RX9 = some m.cls := findClass_of_methodNamed B.named
  have hlocks := B.notSynchronized
  have hu9 : ∀ w ∈ u_ws RX9 TX9 51, w ∈ wsX9_pass := fun w h => List.mem_cons_of_mem _ (uw9 w h)
  subst hsz
  have hD := hD0.self (sz := s.heap.size)
  obtain ⟨A, hAe⟩ : ∃ A, A = va_A (WM ca h ad σ) s.heap.size := ⟨_, rfl⟩
  rw [← hAe] at hD ⊢
  have hA : ∀ q : Nat, s.heap.size ≤ q → A q := fun q h => by rw [hAe]; exact Or.inr h
  have hS : va_S A s.heap s.heap [] := va_S.rf
  have hl := lv_entry ([.ref h, .int a1]) (n := 5) (Nat.le_of_ble_eq_true rfl)
  rw [lg_entry_eq]
  generalize (lg_sl ([.ref h, .int a1]) ++ List.replicate (5 - (lg_sl ([.ref h, .int a1])).length) Slot.unset).toArray = ls at hl ⊢
  have hl : lv_has ls 5 [(0, .ref h), (1, .int a1)] := hl
  obtain ⟨H, hH⟩ : ∃ H, H = s.heap := ⟨_, rfl⟩
  have hP : va_P D vwCl (WM ca h ad σ) H := by rw [hH]; exact hP
  have hS : va_S A s.heap H [] := by rw [hH]; exact hS
  obtain ⟨QQ, hQ⟩ : ∃ Q9, Q9 = MQ below (va_Qi (fun (r : Int32) (_ : Unit) => r = R.1) (fun (_ : Unit) (t : State) => pw_post D ca (WM ca h ad σ) s.heap.size (WM ca h ad (R.2)) t ∧ IR R.2) A) ([.ref h, .int a1] : List Value).toArray s 0 0 A := ⟨_, rfl⟩
  rw [← hQ]
  show W _ _ _ _ _ _ _ _ _ _ s.heap _ _ _ _ _
  rw [← hH]
  have hR : (if (1 : Int32) ≤ a1 then (if a1 ≤ ((720 : Int32) - (σ 1 0)) then (s_X9_pass_c35 (iter s_X9_pass_l35 (a1.toNatClampNeg - 0) 0 ((0 : Int32), σ))) else (((s_X9_refuse σ (-6 : Int32)).1), (s_X9_refuse σ (-6 : Int32)).2)) else (((s_X9_refuse σ (-4 : Int32)).1), (s_X9_refuse σ (-4 : Int32)).2)) = R := hR
  refine lv_iload_n hx hb dX9_pass_0 rfl (lv_at hl 1 rfl) ?_
  refine lv_iconst (v := (1 : Int32)) hx hb dX9_pass_1 (by decide) ?_
  refine lv_icmp_ge (tgt := 12) hx hb dX9_pass_2 (by decide) (fun c_1 => ?_) (fun c_1 => ?_)
  · have hR := (if_pos c_1).symm.trans hR
    refine lv_iload_n hx hb dX9_pass_12 rfl (lv_at hl 1 rfl) ?_
    refine lv_sipush (v := (720 : Int32)) hx hb dX9_pass_13 (by decide) ?_
    refine lv_aload_n hx hb dX9_pass_16 rfl (lv_at hl 0 rfl) ?_
    refine va_get (D := D) (ci := 9) (v := .int (σ 1 0)) (C := RX9) (T := TX9) (N := 51) hx hb hts hu9 hown hK hP 0 wm_0 rfl 1 (by decide) (hts (.fieldLink RX9 141 "GrazeBookModel" "day" "I") (List.mem_cons_of_mem _ mw_784)) (fun _ h9 => h9) rfl dX9_pass_17 ?_
    refine lv_isub hx hb dX9_pass_20 ?_
    refine lv_icmp_le (tgt := 31) hx hb dX9_pass_21 (by decide) (fun c_2 => ?_) (fun c_2 => ?_)
    · have hR := (if_pos c_2).symm.trans hR
      refine lv_iconst (v := (0 : Int32)) hx hb dX9_pass_31 (by decide) ?_
      refine lv_istore_n (lv' := [(2, .int (0 : Int32)), (0, .ref h), (1, .int a1)]) hx hb dX9_pass_32 rfl hl (by decide) rfl (fun ls hl => ?_)
      refine lv_iconst (v := (0 : Int32)) hx hb dX9_pass_33 (by decide) ?_
      refine lv_istore_n (lv' := [(3, .int (0 : Int32)), (2, .int (0 : Int32)), (0, .ref h), (1, .int a1)]) hx hb dX9_pass_34 rfl hl (by decide) rfl (fun ls hl => ?_)
      have hE_3 : ∀ (v2_3 : Int32) (τ_3 : St) (hI_3 : IR τ_3) (hd_3 : True) (H : Heap) (locs : List Loc) (ls : Array Slot), s_X9_pass_c35 (v2_3, τ_3) = R → va_P D vwCl (WM ca h ad τ_3) H → va_D A (WM ca h ad τ_3) → va_S A s.heap H locs → lv_has ls 5 [(2, .int v2_3), (0, .ref h)] → W p l e ((headSpec wsX9_pass ({ frames := 4, cells := 0, slots := 0, locals := 103 })).room) s m ([.ref h, .int a1] : List Value).toArray below meth c H locs 0 0 QQ (F0 m 208 ls []) := by
        intro v2_3 τ_3 hI_3 hd_3 H locs ls hR hP hD hS hl
        have hR : (v2_3, (put τ_3 10 0 ((τ_3 10 0) + v2_3))) = R := hR
        refine lv_aload_n hx hb dX9_pass_208 rfl (lv_at hl 1 rfl) ?_
        refine lv_dup hx hb dX9_pass_209 rfl ?_
        refine va_get (D := D) (ci := 9) (v := .int (τ_3 10 0)) (C := RX9) (T := TX9) (N := 51) hx hb hts hu9 hown hK hP 0 wm_0 rfl 10 (by decide) (hts (.fieldLink RX9 230 "GrazeBookModel" "hungers" "I") (List.mem_cons_of_mem _ mw_793)) (fun _ h9 => h9) rfl dX9_pass_210 ?_
        refine lv_iload_n hx hb dX9_pass_213 rfl (lv_at hl 0 rfl) ?_
        refine lv_iadd hx hb dX9_pass_214 ?_
        refine va_put (D := D) (ci := 9) (v := .int ((τ_3 10 0) + v2_3)) (ty := .int) (C := RX9) (T := TX9) (N := 51) hx hb hts hu9 tyX9 tyX9_ok nmX9 hown hK hP hD hS 0 wm_0 rfl 10 (by decide) (hts (.fieldLink RX9 230 "GrazeBookModel" "hungers" "I") (List.mem_cons_of_mem _ mw_793)) (fun _ h9 => h9) rfl (by decide +kernel) rfl rfl (Nat.le_of_ble_eq_true rfl) dX9_pass_215 (fun H locs hP hD hS => ?_)
        rw [wm_p10] at hP hD
        refine lv_iload_n hx hb dX9_pass_218 rfl (lv_at hl 0 rfl) ?_
        have hI9 : IR (put τ_3 10 0 ((τ_3 10 0) + v2_3)) := hI_3
        subst hR
        rw [hQ]
        exact W.iret (v := v2_3) hx hb hr (fun t ht hW => ⟨⟨v2_3, (), rfl, rfl, ⟨by rw [ht]; exact hP, va_K.moved hW.alike hK, by rw [← hAe]; exact hD⟩, hI9⟩, hS.F ht⟩) hS.2.2 dX9_pass_219
      have hL_3 : ∀ (n k_3 : Nat) (v2_3 : Int32) (τ_3 : St) (hk_3 : lpk a1 k_3 n) (hI_3 : IR τ_3) (hd_3 : (τ_3 1 0).toInt + a1.toInt - (k_3 : Int) ≤ 720) (H : Heap) (locs : List Loc) (ls : Array Slot), s_X9_pass_c35 (iter s_X9_pass_l35 n k_3 (v2_3, τ_3)) = R → va_P D vwCl (WM ca h ad τ_3) H → va_D A (WM ca h ad τ_3) → va_S A s.heap H locs → lv_has ls 5 [(3, .int (nI k_3)), (2, .int v2_3), (0, .ref h), (1, .int a1)] → W p l e ((headSpec wsX9_pass ({ frames := 4, cells := 0, slots := 0, locals := 103 })).room) s m ([.ref h, .int a1] : List Value).toArray below meth c H locs 0 0 QQ (F0 m 35 ls []) := by
        intro n
        induction n with
        | zero =>
          intro k_3 v2_3 τ_3 hk_3 hI_3 hd_3 H locs ls hR hP hD hS hl
          refine lv_iload_n hx hb dX9_pass_35 rfl (lv_at hl 0 rfl) ?_
          refine lv_iload_n hx hb dX9_pass_36 rfl (lv_at hl 3 rfl) ?_
          refine lv_icmp_ge (tgt := 208) hx hb dX9_pass_37 (by decide) (fun _ => ?_) (fun c_4 => absurd (ge_end hk_3) c_4)
          exact hE_3 v2_3 τ_3 hI_3 trivial _ _ _ hR hP hD hS (lv_sub hl [1, 2] rfl)
        | succ n ih =>
          intro k_3 v2_3 τ_3 hk_3 hI_3 hd_3 H locs ls hR hP hD hS hl
          obtain ⟨S_3, hB_3⟩ : ∃ s9, s_X9_pass_l35 k_3 (v2_3, τ_3) = s9 := ⟨_, rfl⟩
          have hR : s_X9_pass_c35 (iter s_X9_pass_l35 n (k_3 + 1) S_3) = R := by rw [← hB_3]; exact hR
          have hB_3 : (s_X9_pass_c57 v2_3 (iter s_X9_pass_l57 ((6 : Int32).toNatClampNeg - 0) 0 (s_X9_places (put τ_3 1 0 ((τ_3 1 0) + (1 : Int32)))))) = S_3 := hB_3
          refine lv_iload_n hx hb dX9_pass_35 rfl (lv_at hl 0 rfl) ?_
          refine lv_iload_n hx hb dX9_pass_36 rfl (lv_at hl 3 rfl) ?_
          refine lv_icmp_ge (tgt := 208) hx hb dX9_pass_37 (by decide) (fun c_5 => absurd c_5 (ge_go hk_3)) (fun _ => ?_)
          refine lv_aload_n hx hb dX9_pass_40 rfl (lv_at hl 2 rfl) ?_
          refine lv_dup hx hb dX9_pass_41 rfl ?_
          refine va_get (D := D) (ci := 9) (v := .int (τ_3 1 0)) (C := RX9) (T := TX9) (N := 51) hx hb hts hu9 hown hK hP 0 wm_0 rfl 1 (by decide) (hts (.fieldLink RX9 141 "GrazeBookModel" "day" "I") (List.mem_cons_of_mem _ mw_784)) (fun _ h9 => h9) rfl dX9_pass_42 ?_
          refine lv_iconst (v := (1 : Int32)) hx hb dX9_pass_45 (by decide) ?_
          refine lv_iadd hx hb dX9_pass_46 ?_
          refine va_put (D := D) (ci := 9) (v := .int ((τ_3 1 0) + (1 : Int32))) (ty := .int) (C := RX9) (T := TX9) (N := 51) hx hb hts hu9 tyX9 tyX9_ok nmX9 hown hK hP hD hS 0 wm_0 rfl 1 (by decide) (hts (.fieldLink RX9 141 "GrazeBookModel" "day" "I") (List.mem_cons_of_mem _ mw_784)) (fun _ h9 => h9) rfl (by decide +kernel) rfl rfl (Nat.le_of_ble_eq_true rfl) dX9_pass_47 (fun H locs hP hD hS => ?_)
          rw [wm_p1] at hP hD
          refine lv_aload_n hx hb dX9_pass_50 rfl (lv_at hl 2 rfl) ?_
          have hF := pw_free hD hS hA
          refine va_callv (va_runV (As := []) (rest := []) ⟨hx, hb, hml, hown, hts⟩ (k_X9_places l D ca h ad (put τ_3 1 0 ((τ_3 1 0) + (1 : Int32))) H.size (ir_put1 (σ := τ_3) hI_3 (day_ok (ir_1 hI_3).1 hd_3 hk_3)) _ rfl) (cwV 0 hts gX9_pass_X9_places rfl rfl rfl (by decide +kernel) ⟨Nat.le_of_ble_eq_true rfl, Nat.le_of_ble_eq_true rfl⟩) ⟨pw_blind, va_recv hK hP (ci := 9) (q0 := 0) rfl wm_0, pw_give hP hK hD⟩ rfl rfl hl.1 rfl (lv_room (Nat.le_of_ble_eq_true rfl)) dX9_pass_51 ⟨Nat.le_of_ble_eq_true rfl, Nat.le_of_ble_eq_true rfl⟩) hS (fun q _ h => hF q h) hF (fun u t H1 locs ht hvm hw hB hz1 hk1 hS => ?_)
          obtain ⟨hB, hI_7⟩ := hB
          obtain ⟨hP, hD⟩ := pw_back hF ht hB
          clear hB hk1 hz1 hF
          generalize H1 = H at hP hS ⊢
          refine lv_iconst (v := (0 : Int32)) hx hb dX9_pass_54 (by decide) ?_
          refine lv_istore (lv' := [(4, .int (0 : Int32)), (3, .int (nI k_3)), (2, .int v2_3), (0, .ref h), (1, .int a1)]) hx hb dX9_pass_55 hl (by decide) rfl (fun ls hl => ?_)
          have hE_8 : ∀ (τ_8 : St) (hI_8 : IR τ_8) (hf1_8 : τ_8 1 = (put τ_3 1 0 ((τ_3 1 0) + (1 : Int32))) 1) (H : Heap) (locs : List Loc) (ls : Array Slot), s_X9_pass_c57 v2_3 τ_8 = S_3 → va_P D vwCl (WM ca h ad τ_8) H → va_D A (WM ca h ad τ_8) → va_S A s.heap H locs → lv_has ls 5 [(3, .int (nI k_3)), (2, .int v2_3), (0, .ref h), (1, .int a1)] → W p l e ((headSpec wsX9_pass ({ frames := 4, cells := 0, slots := 0, locals := 103 })).room) s m ([.ref h, .int a1] : List Value).toArray below meth c H locs 0 0 QQ (F0 m 78 ls []) := by
            intro τ_8 hI_8 hf1_8 H locs ls hB_3 hP hD hS hl
            have hB_3 : (s_X9_pass_c101 v2_3 (iter s_X9_pass_l101 (((s_X9_goesA τ_8 (τ_8 1 0)) 2 0).toNatClampNeg - 0) 0 (s_X9_goesA τ_8 (τ_8 1 0)))) = S_3 := hB_3
            refine lv_aload_n hx hb dX9_pass_78 rfl (lv_at hl 2 rfl) ?_
            refine lv_aload_n hx hb dX9_pass_79 rfl (lv_at hl 2 rfl) ?_
            refine va_get (D := D) (ci := 9) (v := .ref (ad 13)) (C := RX9) (T := TX9) (N := 51) hx hb hts hu9 hown hK hP 0 wm_0 rfl 13 (by decide) (hts (.fieldLink RX9 13 "GrazeBookModel" "grass" "[I") (List.mem_cons_of_mem _ mw_796)) (fun _ h9 => h9) rfl dX9_pass_80 ?_
            refine lv_aload_n hx hb dX9_pass_83 rfl (lv_at hl 2 rfl) ?_
            refine va_get (D := D) (ci := 9) (v := .ref (ad 45)) (C := RX9) (T := TX9) (N := 51) hx hb hts hu9 hown hK hP 0 wm_0 rfl 45 (by decide) (hts (.fieldLink RX9 110 "GrazeBookModel" "tryPiece" "[I") (List.mem_cons_of_mem _ mw_828)) (fun _ h9 => h9) rfl dX9_pass_84 ?_
            refine lv_aload_n hx hb dX9_pass_87 rfl (lv_at hl 2 rfl) ?_
            refine va_get (D := D) (ci := 9) (v := .int (τ_8 1 0)) (C := RX9) (T := TX9) (N := 51) hx hb hts hu9 hown hK hP 0 wm_0 rfl 1 (by decide) (hts (.fieldLink RX9 141 "GrazeBookModel" "day" "I") (List.mem_cons_of_mem _ mw_784)) (fun _ h9 => h9) rfl dX9_pass_88 ?_
            refine lv_aload_n hx hb dX9_pass_91 rfl (lv_at hl 2 rfl) ?_
            refine va_get (D := D) (ci := 9) (v := .ref (ad 46)) (C := RX9) (T := TX9) (N := 51) hx hb hts hu9 hown hK hP 0 wm_0 rfl 46 (by decide) (hts (.fieldLink RX9 113 "GrazeBookModel" "eatenNow" "[I") (List.mem_cons_of_mem _ mw_829)) (fun _ h9 => h9) rfl dX9_pass_92 ?_
            have hF := pw_free hD hS hA
            refine va_callv (va_runV (As := [.ref (ad 13), .ref (ad 45), .int (τ_8 1 0), .ref (ad 46)]) (rest := []) ⟨hx, hb, hml, hown, hts⟩ (k_X9_goesA l D ca h ad τ_8 (τ_8 1 0) H.size hI_8 (vp_day (ir_1 hI_8)) _ rfl) (cwV 4 hts gX9_pass_X9_goes rfl rfl rfl (by decide +kernel) ⟨Nat.le_of_ble_eq_true rfl, Nat.le_of_ble_eq_true rfl⟩) ⟨pw_blind, va_recv hK hP (ci := 9) (q0 := 0) rfl wm_0, pw_give hP hK hD⟩ rfl rfl hl.1 rfl (lv_room (Nat.le_of_ble_eq_true rfl)) dX9_pass_95 ⟨Nat.le_of_ble_eq_true rfl, Nat.le_of_ble_eq_true rfl⟩) hS (fun q _ h => hF q h) hF (fun u t H1 locs ht hvm hw hB hz1 hk1 hS => ?_)
            obtain ⟨hB, hI_10⟩ := hB
            obtain ⟨hP, hD⟩ := pw_back hF ht hB
            clear hB hk1 hz1 hF
            generalize H1 = H at hP hS ⊢
            refine lv_iconst (v := (0 : Int32)) hx hb dX9_pass_98 (by decide) ?_
            refine lv_istore (lv' := [(4, .int (0 : Int32)), (3, .int (nI k_3)), (2, .int v2_3), (0, .ref h), (1, .int a1)]) hx hb dX9_pass_99 hl (by decide) rfl (fun ls hl => ?_)
            have hE_11 : ∀ (τ_11 : St) (hI_11 : IR τ_11) (hf1_11 : τ_11 1 = (put τ_3 1 0 ((τ_3 1 0) + (1 : Int32))) 1) (H : Heap) (locs : List Loc) (ls : Array Slot), s_X9_pass_c101 v2_3 τ_11 = S_3 → va_P D vwCl (WM ca h ad τ_11) H → va_D A (WM ca h ad τ_11) → va_S A s.heap H locs → lv_has ls 5 [(3, .int (nI k_3)), (2, .int v2_3), (0, .ref h), (1, .int a1)] → W p l e ((headSpec wsX9_pass ({ frames := 4, cells := 0, slots := 0, locals := 103 })).room) s m ([.ref h, .int a1] : List Value).toArray below meth c H locs 0 0 QQ (F0 m 149 ls []) := by
              intro τ_11 hI_11 hf1_11 H locs ls hB_3 hP hD hS hl
              have hB_3 : (s_X9_pass_c152 (iter s_X9_pass_l152 ((τ_11 6 0).toNatClampNeg - 0) 0 (v2_3, τ_11))) = S_3 := hB_3
              refine lv_iconst (v := (0 : Int32)) hx hb dX9_pass_149 (by decide) ?_
              refine lv_istore (lv' := [(4, .int (0 : Int32)), (3, .int (nI k_3)), (2, .int v2_3), (0, .ref h), (1, .int a1)]) hx hb dX9_pass_150 hl (by decide) rfl (fun ls hl => ?_)
              have hE_12 : ∀ (v2_12 : Int32) (τ_12 : St) (hI_12 : IR τ_12) (hf1_12 : τ_12 1 = (put τ_3 1 0 ((τ_3 1 0) + (1 : Int32))) 1) (H : Heap) (locs : List Loc) (ls : Array Slot), s_X9_pass_c152 (v2_12, τ_12) = S_3 → va_P D vwCl (WM ca h ad τ_12) H → va_D A (WM ca h ad τ_12) → va_S A s.heap H locs → lv_has ls 5 [(3, .int (nI k_3)), (2, .int v2_12), (0, .ref h), (1, .int a1)] → W p l e ((headSpec wsX9_pass ({ frames := 4, cells := 0, slots := 0, locals := 103 })).room) s m ([.ref h, .int a1] : List Value).toArray below meth c H locs 0 0 QQ (F0 m 194 ls []) := by
                intro v2_12 τ_12 hI_12 hf1_12 H locs ls hB_3 hP hD hS hl
                have hB_3 : (v2_12, (s_X9_lapses (s_X9_sells τ_12))) = S_3 := hB_3
                refine lv_aload_n hx hb dX9_pass_194 rfl (lv_at hl 2 rfl) ?_
                have hF := pw_free hD hS hA
                refine va_callv (va_runV (As := []) (rest := []) ⟨hx, hb, hml, hown, hts⟩ (k_X9_sells l D ca h ad τ_12 H.size hI_12 _ rfl) (cwV 0 hts gX9_pass_X9_sells rfl rfl rfl (by decide +kernel) ⟨Nat.le_of_ble_eq_true rfl, Nat.le_of_ble_eq_true rfl⟩) ⟨pw_blind, va_recv hK hP (ci := 9) (q0 := 0) rfl wm_0, pw_give hP hK hD⟩ rfl rfl hl.1 rfl (lv_room (Nat.le_of_ble_eq_true rfl)) dX9_pass_195 ⟨Nat.le_of_ble_eq_true rfl, Nat.le_of_ble_eq_true rfl⟩) hS (fun q _ h => hF q h) hF (fun u t H1 locs ht hvm hw hB hz1 hk1 hS => ?_)
                obtain ⟨hB, hI_14⟩ := hB
                obtain ⟨hP, hD⟩ := pw_back hF ht hB
                clear hB hk1 hz1 hF
                generalize H1 = H at hP hS ⊢
                refine lv_aload_n hx hb dX9_pass_198 rfl (lv_at hl 2 rfl) ?_
                have hF := pw_free hD hS hA
                refine va_callv (va_runV (As := []) (rest := []) ⟨hx, hb, hml, hown, hts⟩ (k_X9_lapses l D ca h ad (s_X9_sells τ_12) H.size hI_14 _ rfl) (cwV 0 hts gX9_pass_X9_lapses rfl rfl rfl (by decide +kernel) ⟨Nat.le_of_ble_eq_true rfl, Nat.le_of_ble_eq_true rfl⟩) ⟨pw_blind, va_recv hK hP (ci := 9) (q0 := 0) rfl wm_0, pw_give hP hK hD⟩ rfl rfl hl.1 rfl (lv_room (Nat.le_of_ble_eq_true rfl)) dX9_pass_199 ⟨Nat.le_of_ble_eq_true rfl, Nat.le_of_ble_eq_true rfl⟩) hS (fun q _ h => hF q h) hF (fun u t H1 locs ht hvm hw hB hz1 hk1 hS => ?_)
                obtain ⟨hB, hI_16⟩ := hB
                obtain ⟨hP, hD⟩ := pw_back hF ht hB
                clear hB hk1 hz1 hF
                generalize H1 = H at hP hS ⊢
                refine lv_iinc (v := (nI (k_3 + 1))) (lv' := [(3, .int (nI (k_3 + 1))), (2, .int v2_12), (0, .ref h), (1, .int a1)]) hx hb dX9_pass_202 hl (k := 0) rfl (by rw [show Int32.ofInt 1 = 1 from by decide]; exact nI_1 _) (by decide) rfl (fun ls hl => ?_)
                refine lv_goto (tgt := 35) hx hb dX9_pass_205 (by decide) ?_
                subst hB_3
                exact ih (k_3 + 1) v2_12 (s_X9_lapses (s_X9_sells τ_12)) (ge_next hk_3) hI_16 (day_next (congrFun ((fr_s_X9_lapses (s_X9_sells τ_12) (f := 1) (by decide) (by decide) (by decide) (by decide)).trans ((fr_s_X9_sells τ_12 (f := 1) (by decide) (by decide) (by decide)).trans hf1_12)) 0) (ir_1 hI_3).1 hd_3 hk_3) _ _ _ hR hP hD hS (lv_sub hl [0, 1, 2, 3] rfl)
              have hL_12 : ∀ (n k_12 : Nat) (v2_12 : Int32) (τ_12 : St) (hk_12 : lpk (τ_12 6 0) k_12 n) (hI_12 : IR τ_12) (hf1_12 : τ_12 1 = (put τ_3 1 0 ((τ_3 1 0) + (1 : Int32))) 1) (H : Heap) (locs : List Loc) (ls : Array Slot), s_X9_pass_c152 (iter s_X9_pass_l152 n k_12 (v2_12, τ_12)) = S_3 → va_P D vwCl (WM ca h ad τ_12) H → va_D A (WM ca h ad τ_12) → va_S A s.heap H locs → lv_has ls 5 [(4, .int (nI k_12)), (3, .int (nI k_3)), (2, .int v2_12), (0, .ref h), (1, .int a1)] → W p l e ((headSpec wsX9_pass ({ frames := 4, cells := 0, slots := 0, locals := 103 })).room) s m ([.ref h, .int a1] : List Value).toArray below meth c H locs 0 0 QQ (F0 m 152 ls []) := by
                intro n
                induction n with
                | zero =>
                  intro k_12 v2_12 τ_12 hk_12 hI_12 hf1_12 H locs ls hB_3 hP hD hS hl
                  refine lv_iload hx hb dX9_pass_152 (lv_at hl 0 rfl) ?_
                  refine lv_aload_n hx hb dX9_pass_154 rfl (lv_at hl 3 rfl) ?_
                  refine va_get (D := D) (ci := 9) (v := .int (τ_12 6 0)) (C := RX9) (T := TX9) (N := 51) hx hb hts hu9 hown hK hP 0 wm_0 rfl 6 (by decide) (hts (.fieldLink RX9 164 "GrazeBookModel" "herds" "I") (List.mem_cons_of_mem _ mw_789)) (fun _ h9 => h9) rfl dX9_pass_155 ?_
                  refine lv_icmp_ge (tgt := 194) hx hb dX9_pass_158 (by decide) (fun _ => ?_) (fun c_17 => absurd (ge_end hk_12) c_17)
                  exact hE_12 v2_12 τ_12 hI_12 hf1_12 _ _ _ hB_3 hP hD hS (lv_sub hl [1, 2, 3, 4] rfl)
                | succ n ih =>
                  intro k_12 v2_12 τ_12 hk_12 hI_12 hf1_12 H locs ls hB_3 hP hD hS hl
                  obtain ⟨S_12, hB_12⟩ : ∃ s9, s_X9_pass_l152 k_12 (v2_12, τ_12) = s9 := ⟨_, rfl⟩
                  have hB_3 : s_X9_pass_c152 (iter s_X9_pass_l152 n (k_12 + 1) S_12) = S_3 := by rw [← hB_12]; exact hB_3
                  have hB_12 : ((v2_12 + (τ_12 43 k_12)), (put τ_12 40 k_12 ((τ_12 40 k_12) + (τ_12 43 k_12)))) = S_12 := hB_12
                  refine lv_iload hx hb dX9_pass_152 (lv_at hl 0 rfl) ?_
                  refine lv_aload_n hx hb dX9_pass_154 rfl (lv_at hl 3 rfl) ?_
                  refine va_get (D := D) (ci := 9) (v := .int (τ_12 6 0)) (C := RX9) (T := TX9) (N := 51) hx hb hts hu9 hown hK hP 0 wm_0 rfl 6 (by decide) (hts (.fieldLink RX9 164 "GrazeBookModel" "herds" "I") (List.mem_cons_of_mem _ mw_789)) (fun _ h9 => h9) rfl dX9_pass_155 ?_
                  refine lv_icmp_ge (tgt := 194) hx hb dX9_pass_158 (by decide) (fun c_18 => absurd c_18 (ge_go hk_12)) (fun _ => ?_)
                  refine lv_aload_n hx hb dX9_pass_161 rfl (lv_at hl 3 rfl) ?_
                  refine va_get (D := D) (ci := 9) (v := .ref (ad 40)) (C := RX9) (T := TX9) (N := 51) hx hb hts hu9 hown hK hP 0 wm_0 rfl 40 (by decide) (hts (.fieldLink RX9 95 "GrazeBookModel" "hHunger" "[I") (List.mem_cons_of_mem _ mw_823)) (fun _ h9 => h9) rfl dX9_pass_162 ?_
                  refine lv_iload hx hb dX9_pass_165 (lv_at hl 0 rfl) ?_
                  refine lv_dup2_11 hx hb dX9_pass_167 rfl rfl ?_
                  refine va_iald_k (k := k_12) (v := (τ_12 40 k_12)) hx hb hK hP 29 0 wm_a40 rfl (ix_cl hk_12) rfl (ix_loop (N := 20) hk_12 (ir_6 hI_12) (by decide) (by decide)) dX9_pass_168 ?_
                  refine lv_aload_n hx hb dX9_pass_169 rfl (lv_at hl 3 rfl) ?_
                  refine va_get (D := D) (ci := 9) (v := .ref (ad 43)) (C := RX9) (T := TX9) (N := 51) hx hb hts hu9 hown hK hP 0 wm_0 rfl 43 (by decide) (hts (.fieldLink RX9 104 "GrazeBookModel" "hunger" "[I") (List.mem_cons_of_mem _ mw_826)) (fun _ h9 => h9) rfl dX9_pass_170 ?_
                  refine lv_iload hx hb dX9_pass_173 (lv_at hl 0 rfl) ?_
                  refine va_iald_k (k := k_12) (v := (τ_12 43 k_12)) hx hb hK hP 32 0 wm_a43 rfl (ix_cl hk_12) rfl (ix_loop (N := 20) hk_12 (ir_6 hI_12) (by decide) (by decide)) dX9_pass_175 ?_
                  refine lv_iadd hx hb dX9_pass_176 ?_
                  refine va_iast_k (k := k_12) hx hb hK hP hD hS 29 0 wm_a40 rfl (ix_cl hk_12) (ix_loop (N := 20) hk_12 (ir_6 hI_12) (by decide) (by decide)) dX9_pass_177 (fun H locs hP hD hS => ?_)
                  rw [wm_s40] at hP hD
                  refine lv_iload_n hx hb dX9_pass_178 rfl (lv_at hl 2 rfl) ?_
                  refine lv_aload_n hx hb dX9_pass_179 rfl (lv_at hl 3 rfl) ?_
                  refine va_get (D := D) (ci := 9) (v := .ref (ad 43)) (C := RX9) (T := TX9) (N := 51) hx hb hts hu9 hown hK hP 0 wm_0 rfl 43 (by decide) (hts (.fieldLink RX9 104 "GrazeBookModel" "hunger" "[I") (List.mem_cons_of_mem _ mw_826)) (fun _ h9 => h9) rfl dX9_pass_180 ?_
                  refine lv_iload hx hb dX9_pass_183 (lv_at hl 0 rfl) ?_
                  refine va_iald_k (k := k_12) (v := (τ_12 43 k_12)) hx hb hK hP 32 0 wm_a43 rfl (ix_cl hk_12) rfl (ix_loop (N := 20) hk_12 (ir_6 hI_12) (by decide) (by decide)) dX9_pass_185 ?_
                  refine lv_iadd hx hb dX9_pass_186 ?_
                  refine lv_istore_n (lv' := [(2, .int (v2_12 + (τ_12 43 k_12))), (4, .int (nI k_12)), (3, .int (nI k_3)), (0, .ref h), (1, .int a1)]) hx hb dX9_pass_187 rfl hl (by decide) rfl (fun ls hl => ?_)
                  refine lv_iinc (v := (nI (k_12 + 1))) (lv' := [(4, .int (nI (k_12 + 1))), (2, .int (v2_12 + (τ_12 43 k_12))), (3, .int (nI k_3)), (0, .ref h), (1, .int a1)]) hx hb dX9_pass_188 hl (k := 1) rfl (by rw [show Int32.ofInt 1 = 1 from by decide]; exact nI_1 _) (by decide) rfl (fun ls hl => ?_)
                  refine lv_goto (tgt := 152) hx hb dX9_pass_191 (by decide) ?_
                  subst hB_12
                  exact ih (k_12 + 1) (v2_12 + (τ_12 43 k_12)) (put τ_12 40 k_12 ((τ_12 40 k_12) + (τ_12 43 k_12))) (ge_next hk_12) hI_12 hf1_12 _ _ _ hB_3 hP hD hS (lv_sub hl [0, 2, 1, 3, 4] rfl)
              exact hL_12 _ 0 v2_3 τ_11 ⟨rfl, by decide⟩ hI_11 hf1_11 _ _ _ hB_3 hP hD hS (lv_sub hl [0, 1, 2, 3, 4] rfl)
            have hL_11 : ∀ (n k_11 : Nat) (τ_11 : St) (hk_11 : lpk (τ_11 2 0) k_11 n) (hI_11 : IR τ_11) (hf1_11 : τ_11 1 = (put τ_3 1 0 ((τ_3 1 0) + (1 : Int32))) 1) (H : Heap) (locs : List Loc) (ls : Array Slot), s_X9_pass_c101 v2_3 (iter s_X9_pass_l101 n k_11 τ_11) = S_3 → va_P D vwCl (WM ca h ad τ_11) H → va_D A (WM ca h ad τ_11) → va_S A s.heap H locs → lv_has ls 5 [(4, .int (nI k_11)), (3, .int (nI k_3)), (2, .int v2_3), (0, .ref h), (1, .int a1)] → W p l e ((headSpec wsX9_pass ({ frames := 4, cells := 0, slots := 0, locals := 103 })).room) s m ([.ref h, .int a1] : List Value).toArray below meth c H locs 0 0 QQ (F0 m 101 ls []) := by
              intro n
              induction n with
              | zero =>
                intro k_11 τ_11 hk_11 hI_11 hf1_11 H locs ls hB_3 hP hD hS hl
                refine lv_iload hx hb dX9_pass_101 (lv_at hl 0 rfl) ?_
                refine lv_aload_n hx hb dX9_pass_103 rfl (lv_at hl 3 rfl) ?_
                refine va_get (D := D) (ci := 9) (v := .int (τ_11 2 0)) (C := RX9) (T := TX9) (N := 51) hx hb hts hu9 hown hK hP 0 wm_0 rfl 2 (by decide) (hts (.fieldLink RX9 127 "GrazeBookModel" "pieces" "I") (List.mem_cons_of_mem _ mw_785)) (fun _ h9 => h9) rfl dX9_pass_104 ?_
                refine lv_icmp_ge (tgt := 149) hx hb dX9_pass_107 (by decide) (fun _ => ?_) (fun c_19 => absurd (ge_end hk_11) c_19)
                exact hE_11 τ_11 hI_11 hf1_11 _ _ _ hB_3 hP hD hS (lv_sub hl [1, 2, 3, 4] rfl)
              | succ n ih =>
                intro k_11 τ_11 hk_11 hI_11 hf1_11 H locs ls hB_3 hP hD hS hl
                obtain ⟨S_11, hB_11⟩ : ∃ s9, s_X9_pass_l101 k_11 τ_11 = s9 := ⟨_, rfl⟩
                have hB_3 : s_X9_pass_c101 v2_3 (iter s_X9_pass_l101 n (k_11 + 1) S_11) = S_3 := by rw [← hB_11]; exact hB_3
                have hB_11 : (put (put τ_11 17 k_11 ((τ_11 17 k_11) + (τ_11 46 k_11))) 11 0 ((τ_11 11 0) + (τ_11 46 k_11))) = S_11 := hB_11
                refine lv_iload hx hb dX9_pass_101 (lv_at hl 0 rfl) ?_
                refine lv_aload_n hx hb dX9_pass_103 rfl (lv_at hl 3 rfl) ?_
                refine va_get (D := D) (ci := 9) (v := .int (τ_11 2 0)) (C := RX9) (T := TX9) (N := 51) hx hb hts hu9 hown hK hP 0 wm_0 rfl 2 (by decide) (hts (.fieldLink RX9 127 "GrazeBookModel" "pieces" "I") (List.mem_cons_of_mem _ mw_785)) (fun _ h9 => h9) rfl dX9_pass_104 ?_
                refine lv_icmp_ge (tgt := 149) hx hb dX9_pass_107 (by decide) (fun c_20 => absurd c_20 (ge_go hk_11)) (fun _ => ?_)
                refine lv_aload_n hx hb dX9_pass_110 rfl (lv_at hl 3 rfl) ?_
                refine va_get (D := D) (ci := 9) (v := .ref (ad 17)) (C := RX9) (T := TX9) (N := 51) hx hb hts hu9 hown hK hP 0 wm_0 rfl 17 (by decide) (hts (.fieldLink RX9 25 "GrazeBookModel" "eaten" "[I") (List.mem_cons_of_mem _ mw_800)) (fun _ h9 => h9) rfl dX9_pass_111 ?_
                refine lv_iload hx hb dX9_pass_114 (lv_at hl 0 rfl) ?_
                refine lv_dup2_11 hx hb dX9_pass_116 rfl rfl ?_
                refine va_iald_k (k := k_11) (v := (τ_11 17 k_11)) hx hb hK hP 6 0 wm_a17 rfl (ix_cl hk_11) rfl (ix_loop (N := 6) hk_11 (ir_2 hI_11) (by decide) (by decide)) dX9_pass_117 ?_
                refine lv_aload_n hx hb dX9_pass_118 rfl (lv_at hl 3 rfl) ?_
                refine va_get (D := D) (ci := 9) (v := .ref (ad 46)) (C := RX9) (T := TX9) (N := 51) hx hb hts hu9 hown hK hP 0 wm_0 rfl 46 (by decide) (hts (.fieldLink RX9 113 "GrazeBookModel" "eatenNow" "[I") (List.mem_cons_of_mem _ mw_829)) (fun _ h9 => h9) rfl dX9_pass_119 ?_
                refine lv_iload hx hb dX9_pass_122 (lv_at hl 0 rfl) ?_
                refine va_iald_k (k := k_11) (v := (τ_11 46 k_11)) hx hb hK hP 35 0 wm_a46 rfl (ix_cl hk_11) rfl (ix_loop (N := 6) hk_11 (ir_2 hI_11) (by decide) (by decide)) dX9_pass_124 ?_
                refine lv_iadd hx hb dX9_pass_125 ?_
                refine va_iast_k (k := k_11) hx hb hK hP hD hS 6 0 wm_a17 rfl (ix_cl hk_11) (ix_loop (N := 6) hk_11 (ir_2 hI_11) (by decide) (by decide)) dX9_pass_126 (fun H locs hP hD hS => ?_)
                rw [wm_s17] at hP hD
                refine lv_aload_n hx hb dX9_pass_127 rfl (lv_at hl 3 rfl) ?_
                refine lv_dup hx hb dX9_pass_128 rfl ?_
                refine va_get (D := D) (ci := 9) (v := .int (τ_11 11 0)) (C := RX9) (T := TX9) (N := 51) hx hb hts hu9 hown hK hP 0 wm_0 rfl 11 (by decide) (hts (.fieldLink RX9 221 "GrazeBookModel" "eats" "I") (List.mem_cons_of_mem _ mw_794)) (fun _ h9 => h9) rfl dX9_pass_129 ?_
                refine lv_aload_n hx hb dX9_pass_132 rfl (lv_at hl 3 rfl) ?_
                refine va_get (D := D) (ci := 9) (v := .ref (ad 46)) (C := RX9) (T := TX9) (N := 51) hx hb hts hu9 hown hK hP 0 wm_0 rfl 46 (by decide) (hts (.fieldLink RX9 113 "GrazeBookModel" "eatenNow" "[I") (List.mem_cons_of_mem _ mw_829)) (fun _ h9 => h9) rfl dX9_pass_133 ?_
                refine lv_iload hx hb dX9_pass_136 (lv_at hl 0 rfl) ?_
                refine va_iald_k (k := k_11) (v := (τ_11 46 k_11)) hx hb hK hP 35 0 wm_a46 rfl (ix_cl hk_11) rfl (ix_loop (N := 6) hk_11 (ir_2 hI_11) (by decide) (by decide)) dX9_pass_138 ?_
                refine lv_iadd hx hb dX9_pass_139 ?_
                refine va_put (D := D) (ci := 9) (v := .int ((τ_11 11 0) + (τ_11 46 k_11))) (ty := .int) (C := RX9) (T := TX9) (N := 51) hx hb hts hu9 tyX9 tyX9_ok nmX9 hown hK hP hD hS 0 wm_0 rfl 11 (by decide) (hts (.fieldLink RX9 221 "GrazeBookModel" "eats" "I") (List.mem_cons_of_mem _ mw_794)) (fun _ h9 => h9) rfl (by decide +kernel) rfl rfl (Nat.le_of_ble_eq_true rfl) dX9_pass_140 (fun H locs hP hD hS => ?_)
                rw [wm_p11] at hP hD
                refine lv_iinc (v := (nI (k_11 + 1))) (lv' := [(4, .int (nI (k_11 + 1))), (3, .int (nI k_3)), (2, .int v2_3), (0, .ref h), (1, .int a1)]) hx hb dX9_pass_143 hl (k := 0) rfl (by rw [show Int32.ofInt 1 = 1 from by decide]; exact nI_1 _) (by decide) rfl (fun ls hl => ?_)
                refine lv_goto (tgt := 101) hx hb dX9_pass_146 (by decide) ?_
                subst hB_11
                exact ih (k_11 + 1) (put (put τ_11 17 k_11 ((τ_11 17 k_11) + (τ_11 46 k_11))) 11 0 ((τ_11 11 0) + (τ_11 46 k_11))) (ge_next hk_11) hI_11 hf1_11 _ _ _ hB_3 hP hD hS (lv_sub hl [0, 1, 2, 3, 4] rfl)
            exact hL_11 _ 0 (s_X9_goesA τ_8 (τ_8 1 0)) ⟨rfl, by decide⟩ hI_10 ((fr_s_X9_goesA τ_8 (τ_8 1 0) (f := 1) (by decide) (by decide) (by decide)).trans hf1_8) _ _ _ hB_3 hP hD hS (lv_sub hl [0, 1, 2, 3, 4] rfl)
          have hL_8 : ∀ (n k_8 : Nat) (τ_8 : St) (hk_8 : lpk (6 : Int32) k_8 n) (hI_8 : IR τ_8) (hf1_8 : τ_8 1 = (put τ_3 1 0 ((τ_3 1 0) + (1 : Int32))) 1) (H : Heap) (locs : List Loc) (ls : Array Slot), s_X9_pass_c57 v2_3 (iter s_X9_pass_l57 n k_8 τ_8) = S_3 → va_P D vwCl (WM ca h ad τ_8) H → va_D A (WM ca h ad τ_8) → va_S A s.heap H locs → lv_has ls 5 [(4, .int (nI k_8)), (3, .int (nI k_3)), (2, .int v2_3), (0, .ref h), (1, .int a1)] → W p l e ((headSpec wsX9_pass ({ frames := 4, cells := 0, slots := 0, locals := 103 })).room) s m ([.ref h, .int a1] : List Value).toArray below meth c H locs 0 0 QQ (F0 m 57 ls []) := by
            intro n
            induction n with
            | zero =>
              intro k_8 τ_8 hk_8 hI_8 hf1_8 H locs ls hB_3 hP hD hS hl
              refine lv_iload hx hb dX9_pass_57 (lv_at hl 0 rfl) ?_
              refine lv_bipush (v := (6 : Int32)) hx hb dX9_pass_59 (by decide) ?_
              refine lv_icmp_ge (tgt := 78) hx hb dX9_pass_61 (by decide) (fun _ => ?_) (fun c_21 => absurd (ge_end hk_8) c_21)
              exact hE_8 τ_8 hI_8 hf1_8 _ _ _ hB_3 hP hD hS (lv_sub hl [1, 2, 3, 4] rfl)
            | succ n ih =>
              intro k_8 τ_8 hk_8 hI_8 hf1_8 H locs ls hB_3 hP hD hS hl
              obtain ⟨S_8, hB_8⟩ : ∃ s9, s_X9_pass_l57 k_8 τ_8 = s9 := ⟨_, rfl⟩
              have hB_3 : s_X9_pass_c57 v2_3 (iter s_X9_pass_l57 n (k_8 + 1) S_8) = S_3 := by rw [← hB_8]; exact hB_3
              have hB_8 : (put τ_8 46 k_8 (0 : Int32)) = S_8 := hB_8
              refine lv_iload hx hb dX9_pass_57 (lv_at hl 0 rfl) ?_
              refine lv_bipush (v := (6 : Int32)) hx hb dX9_pass_59 (by decide) ?_
              refine lv_icmp_ge (tgt := 78) hx hb dX9_pass_61 (by decide) (fun c_22 => absurd c_22 (ge_go hk_8)) (fun _ => ?_)
              refine lv_aload_n hx hb dX9_pass_64 rfl (lv_at hl 3 rfl) ?_
              refine va_get (D := D) (ci := 9) (v := .ref (ad 46)) (C := RX9) (T := TX9) (N := 51) hx hb hts hu9 hown hK hP 0 wm_0 rfl 46 (by decide) (hts (.fieldLink RX9 113 "GrazeBookModel" "eatenNow" "[I") (List.mem_cons_of_mem _ mw_829)) (fun _ h9 => h9) rfl dX9_pass_65 ?_
              refine lv_iload hx hb dX9_pass_68 (lv_at hl 0 rfl) ?_
              refine lv_iconst (v := (0 : Int32)) hx hb dX9_pass_70 (by decide) ?_
              refine va_iast_k (k := k_8) hx hb hK hP hD hS 35 0 wm_a46 rfl (ix_cl hk_8) (ix_loop (N := 6) hk_8 (show 0 ≤ (6 : Int32).toInt ∧ (6 : Int32).toInt ≤ ((6 : Nat) : Int) by decide) (by decide) (by decide)) dX9_pass_71 (fun H locs hP hD hS => ?_)
              rw [wm_s46] at hP hD
              refine lv_iinc (v := (nI (k_8 + 1))) (lv' := [(4, .int (nI (k_8 + 1))), (3, .int (nI k_3)), (2, .int v2_3), (0, .ref h), (1, .int a1)]) hx hb dX9_pass_72 hl (k := 0) rfl (by rw [show Int32.ofInt 1 = 1 from by decide]; exact nI_1 _) (by decide) rfl (fun ls hl => ?_)
              refine lv_goto (tgt := 57) hx hb dX9_pass_75 (by decide) ?_
              subst hB_8
              exact ih (k_8 + 1) (put τ_8 46 k_8 (0 : Int32)) (ge_next hk_8) hI_8 hf1_8 _ _ _ hB_3 hP hD hS (lv_sub hl [0, 1, 2, 3, 4] rfl)
          exact hL_8 _ 0 (s_X9_places (put τ_3 1 0 ((τ_3 1 0) + (1 : Int32)))) ⟨rfl, by decide⟩ hI_7 ((fr_s_X9_places (put τ_3 1 0 ((τ_3 1 0) + (1 : Int32))) (f := 1) (by decide)).trans rfl) _ _ _ hB_3 hP hD hS (lv_sub hl [0, 1, 2, 3, 4] rfl)
      exact hL_3 _ 0 (0 : Int32) σ ⟨rfl, by decide⟩ hI (show (σ 1 0).toInt + a1.toInt - ((0 : Nat) : Int) ≤ 720 by have := day_0 (ir_1 hI) c_2; omega) _ _ _ hR hP hD hS (lv_sub hl [0, 1, 2, 3] rfl)
    · have hR := (if_neg c_2).symm.trans hR
      refine lv_aload_n hx hb dX9_pass_24 rfl (lv_at hl 0 rfl) ?_
      refine lv_bipush (v := (-6 : Int32)) hx hb dX9_pass_25 (by decide) ?_
      have hF := pw_free hD hS hA
      refine va_calli (va_runV (As := [.int (-6 : Int32)]) (rest := []) ⟨hx, hb, hml, hown, hts⟩ (k_X9_refuse l D ca h ad σ (-6 : Int32) H.size hI (by unfold vp_in; decide) _ rfl) (cwV 1 hts gX9_pass_X9_refuse rfl rfl rfl (by decide +kernel) ⟨Nat.le_of_ble_eq_true rfl, Nat.le_of_ble_eq_true rfl⟩) ⟨pw_blind, va_recv hK hP (ci := 9) (q0 := 0) rfl wm_0, pw_give hP hK hD⟩ rfl rfl hl.1 rfl (lv_room (Nat.le_of_ble_eq_true rfl)) dX9_pass_27 ⟨Nat.le_of_ble_eq_true rfl, Nat.le_of_ble_eq_true rfl⟩) hS (fun q _ h => hF q h) hF (fun r_23 u t H1 locs ht hvm hw hB hz1 hk1 hS => ?_)
      subst hw
      obtain ⟨hB, hI_24⟩ := hB
      obtain ⟨hP, hD⟩ := pw_back hF ht hB
      clear hB hk1 hz1 hF
      generalize H1 = H at hP hS ⊢
      have hI9 : IR ((s_X9_refuse σ (-6 : Int32)).2) := hI_24
      subst hR
      rw [hQ]
      exact W.iret (v := ((s_X9_refuse σ (-6 : Int32)).1)) hx hb hr (fun t ht hW => ⟨⟨((s_X9_refuse σ (-6 : Int32)).1), (), rfl, rfl, ⟨by rw [ht]; exact hP, va_K.moved hW.alike hK, by rw [← hAe]; exact hD⟩, hI9⟩, hS.F ht⟩) hS.2.2 dX9_pass_30
  · have hR := (if_neg c_1).symm.trans hR
    refine lv_aload_n hx hb dX9_pass_5 rfl (lv_at hl 0 rfl) ?_
    refine lv_bipush (v := (-4 : Int32)) hx hb dX9_pass_6 (by decide) ?_
    have hF := pw_free hD hS hA
    refine va_calli (va_runV (As := [.int (-4 : Int32)]) (rest := []) ⟨hx, hb, hml, hown, hts⟩ (k_X9_refuse l D ca h ad σ (-4 : Int32) H.size hI (by unfold vp_in; decide) _ rfl) (cwV 1 hts gX9_pass_X9_refuse rfl rfl rfl (by decide +kernel) ⟨Nat.le_of_ble_eq_true rfl, Nat.le_of_ble_eq_true rfl⟩) ⟨pw_blind, va_recv hK hP (ci := 9) (q0 := 0) rfl wm_0, pw_give hP hK hD⟩ rfl rfl hl.1 rfl (lv_room (Nat.le_of_ble_eq_true rfl)) dX9_pass_8 ⟨Nat.le_of_ble_eq_true rfl, Nat.le_of_ble_eq_true rfl⟩) hS (fun q _ h => hF q h) hF (fun r_25 u t H1 locs ht hvm hw hB hz1 hk1 hS => ?_)
    subst hw
    obtain ⟨hB, hI_26⟩ := hB
    obtain ⟨hP, hD⟩ := pw_back hF ht hB
    clear hB hk1 hz1 hF
    generalize H1 = H at hP hS ⊢
    have hI9 : IR ((s_X9_refuse σ (-4 : Int32)).2) := hI_26
    subst hR
    rw [hQ]
    exact W.iret (v := ((s_X9_refuse σ (-4 : Int32)).1)) hx hb hr (fun t ht hW => ⟨⟨((s_X9_refuse σ (-4 : Int32)).1), (), rfl, rfl, ⟨by rw [ht]; exact hP, va_K.moved hW.alike hK, by rw [← hAe]; exact hD⟩, hI9⟩, hS.F ht⟩) hS.2.2 dX9_pass_11

