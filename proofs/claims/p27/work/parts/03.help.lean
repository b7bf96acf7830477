theorem fa_lt (a b : Int32) : a < b ↔ a.toInt < b.toInt := Int32.lt_iff_toInt_lt
theorem fa_le (a b : Int32) : a ≤ b ↔ a.toInt ≤ b.toInt := Int32.le_iff_toInt_le
theorem fa_eq (a b : Int32) : a = b ↔ a.toInt = b.toInt := Int32.toInt_inj.symm
theorem sw_in {x : Int32} {n : Nat} (h : ¬ (x.toInt < 0 ∨ (n : Int) < x.toInt)) (hn : n + 1 < 2 ^ 31) : ∃ j : Nat, j < n + 1 ∧ x = nI j := by
  have h1 : vp_in x (n + 1) := vp_in_iff.mpr (by omega)
  exact vp_in_of h1 hn
theorem upd_z (k : Nat) : upd (fun _ => (0 : Int32)) k 0 = (fun _ => (0 : Int32)) := by
  funext j
  unfold upd
  split <;> rfl
theorem kk_same {D : va_G} {cl : List vw_C} {tys : List (ClassId × FieldType)} {s : State} {i j : Nat} {cA cB : ClassId} {ty : FieldType} (h : va_K D cl tys s) (hi : tys[i]? = some (cA, ty)) (hj : tys[j]? = some (cB, ty)) : cA = cB := by
  have a := (h.2 i _ hi).2
  have b := (h.2 j _ hj).2
  cases ty with
  | object C =>
    obtain ⟨_, _, _, _, _, f⟩ := a
    obtain ⟨_, _, _, _, _, g⟩ := b
    exact Option.some.inj (f.symm.trans g)
  | _ => exact Option.some.inj (Eq.trans (Eq.symm a) b)
abbrev St : Type := Nat → Nat → Int32
def put (σ : St) (f i : Nat) (x : Int32) : St := fun g => cond (Nat.beq g f) (upd (σ g) i x) (σ g)
def TY (ca : Nat → ClassId) : List (ClassId × FieldType) := [(ca 0, .int), (ca 1, .boolean), (ca 2, .object "GrazeBook$Ground"), (ca 3, .object "GrazeBook$Purse"), (ca 4, .object "GrazeBook$Claim"), (ca 5, .object "GrazeBook$Drove"), (ca 6, .array .int)]
def pw_pre (D : va_G) (ca : Nat → ClassId) (ws : va_W) (sz : Nat) (U : State) : Prop := U.heap.size = sz ∧ va_P D vwCl ws U.heap ∧ va_K D vwCl (TY ca) U ∧ va_D (fun _ => True) ws
def pw_post (D : va_G) (ca : Nat → ClassId) (ws : va_W) (sz : Nat) (ws' : va_W) (t : State) : Prop := va_P D vwCl ws' t.heap ∧ va_K D vwCl (TY ca) t ∧ va_D (va_A ws sz) ws'
theorem pw_blind {av : List Value} {D : va_G} {ca : Nat → ClassId} {ws : va_W} {sz : Nat} : FrameBlind (va_Pc av (pw_pre D ca ws sz)) := fun a U g mk q => ⟨q.1, q.2.1, q.2.2.1, va_K.moved (u := U) (U := U.calling g mk a) (Vm.Alike.refl U.vm) q.2.2.2.1, q.2.2.2.2⟩
theorem pw_give {av : List Value} {D : va_G} {ca : Nat → ClassId} {ws : va_W} {A : Nat → Prop} {s : State} {H : Heap} (hP : va_P D vwCl ws H) (hK : va_K D vwCl (TY ca) s) (hD : va_D A ws) : ∀ U : State, U.heap = H → s.WarmedH U.vm → va_Pc av (pw_pre D ca ws H.size) av.toArray U := fun U hU hW => ⟨rfl, by rw [hU], by rw [hU]; exact hP, va_K.moved hW.alike hK, hD.weaken (fun _ _ _ _ => trivial)⟩
theorem pw_free {A : Nat → Prop} {ws : va_W} {H0 H : Heap} {locs : List Loc} (hD : va_D A ws) (hS : va_S A H0 H locs) (hA : ∀ q, H0.size ≤ q → A q) : ∀ q, va_A ws H.size q → A q := by
  intro q h
  rcases h with ⟨k, e, h⟩ | h
  · exact hD.2 k (q, e) h
  · exact hA q (Nat.le_trans hS.1 h)
theorem pw_back {D : va_G} {ca : Nat → ClassId} {ws ws' : va_W} {A : Nat → Prop} {H H1 : Heap} {t : State} (hF : ∀ q, va_A ws H.size q → A q) (ht : t.heap = H1) (hB : pw_post D ca ws H.size ws' t) : va_P D vwCl ws' H1 ∧ va_D A ws' := ⟨ht ▸ hB.1, hB.2.2.weaken (fun _ q _ h => hF q.1 h)⟩
theorem pn_P {D : va_G} {H : Heap} : va_P D vwCl [] H := fun k q h => by simp at h
theorem pn_D {A : Nat → Prop} : va_D A [] := ⟨fun i j p q h => by simp at h, fun k q h => by simp at h⟩
theorem pn_back {D : va_G} {ws : va_W} {H H1 : Heap} (hP : va_P D vwCl ws H) (hk1 : ∀ q : Nat, q < H.size → ¬ va_A [] H.size q → H1[q]? = H[q]?) : va_P D vwCl ws H1 := fun k q hk => (hP k q hk).kept (hk1 q.1 (hP k q hk).lt (fun h => by
  rcases h with ⟨j, e, h⟩ | h
  · simp at h
  · exact absurd (hP k q hk).lt (Nat.not_lt.mpr h)))
/-- loops: f is the body, n rounds from index k on -/
def iter {α : Type} (f : Nat → α → α) : Nat → Nat → α → α
  | 0, _, s => s
  | n + 1, k, s => iter f n (k + 1) (f k s)
def iterC {α : Type} (f : Nat → α → Option α) : Nat → Nat → α → α
  | 0, _, s => s
  | n + 1, k, s => match f k s with
    | none => s
    | some t => iterC f n (k + 1) t
def iterC1 {α : Type} (f : Nat → α → Option α) (n k : Nat) (s : α) (x : Option α) : α := match x with
  | none => s
  | some t => iterC f n (k + 1) t
def iterR {α ρ : Type} (f : Nat → α → Sum ρ α) : Nat → Nat → α → Sum ρ α
  | 0, _, s => .inr s
  | n + 1, k, s => match f k s with
    | .inl r => .inl r
    | .inr t => iterR f n (k + 1) t
def iterR1 {α ρ : Type} (f : Nat → α → Sum ρ α) (n k : Nat) (x : Sum ρ α) : Sum ρ α := match x with
  | .inl r => .inl r
  | .inr t => iterR f n (k + 1) t
def iterD {α : Type} (f : Nat → α → α) : Nat → α → α
  | 0, s => s
  | k + 1, s => iterD f k (f k s)
def iterDR {α ρ : Type} (f : Nat → α → Sum ρ α) : Nat → α → Sum ρ α
  | 0, s => .inr s
  | k + 1, s => match f k s with
    | .inl r => .inl r
    | .inr t => iterDR f k t
def iterDR1 {α ρ : Type} (f : Nat → α → Sum ρ α) (k : Nat) (x : Sum ρ α) : Sum ρ α := match x with
  | .inl r => .inl r
  | .inr t => iterDR f k t
theorem put_fr {σ : St} {f g i : Nat} {x : Int32} (h : f ≠ g) : put σ g i x f = σ f := by
  show cond (Nat.beq f g) (upd (σ f) i x) (σ f) = σ f
  cases e : Nat.beq f g with
  | true => exact absurd (Nat.eq_of_beq_eq_true e) h
  | false => rfl
theorem iter_fr {α β : Type} {P : α → β} {L : Nat → α → α} (h : ∀ k s, P (L k s) = P s) : ∀ n k s, P (iter L n k s) = P s := by
  intro n
  induction n with
  | zero => intro k s; rfl
  | succ n ih => intro k s; exact (ih (k + 1) (L k s)).trans (h k s)
theorem iterC_fr {α β : Type} {P : α → β} {L : Nat → α → Option α} (h : ∀ k s t, L k s = some t → P t = P s) : ∀ n k s, P (iterC L n k s) = P s := by
  intro n
  induction n with
  | zero => intro k s; rfl
  | succ n ih =>
    intro k s
    show P (iterC1 L n k s (L k s)) = P s
    cases e : L k s with
    | none => rfl
    | some t => exact (ih (k + 1) t).trans (h k s t e)
theorem iterD_fr {α β : Type} {P : α → β} {L : Nat → α → α} (h : ∀ k s, P (L k s) = P s) : ∀ n s, P (iterD L n s) = P s := by
  intro n
  induction n with
  | zero => intro s; rfl
  | succ n ih => intro s; exact (ih (L n s)).trans (h n s)
theorem tn_toInt (x : Int32) : x.toNatClampNeg = x.toInt.toNat := rfl
theorem tn_lt (x : Int32) : x.toNatClampNeg < 2 ^ 31 := by
  have h := x.toInt_lt
  rw [tn_toInt]
  omega
def lpk (b : Int32) (k n : Nat) : Prop := n = b.toNatClampNeg - k ∧ k < 2147483648
theorem ge_end {k : Nat} {b : Int32} (h : lpk b k 0) : b ≤ nI k := by
  obtain ⟨h, h2⟩ := h
  rw [Int32.le_iff_toInt_le, nI_toInt h2]
  rw [tn_toInt] at h
  omega
theorem ge_go {k n : Nat} {b : Int32} (h : lpk b k (n + 1)) : ¬ b ≤ nI k := by
  obtain ⟨h, h2⟩ := h
  rw [Int32.le_iff_toInt_le, nI_toInt h2]
  rw [tn_toInt] at h
  omega
theorem ge_next {k n : Nat} {b : Int32} (h : lpk b k (n + 1)) : lpk b (k + 1) n := by
  obtain ⟨h, h2⟩ := h
  have h1 := tn_lt b
  exact ⟨by omega, by omega⟩
theorem ix_cl {k n : Nat} {b : Int32} (h : lpk b k n) : (nI k).toNatClampNeg = k := nI_clamp h.2
theorem ix_loop {k n M N : Nat} {b : Int32} (h : lpk b k (n + 1)) (hb : 0 ≤ b.toInt ∧ b.toInt ≤ (M : Int)) (hM : M ≤ N) (hN : N < 2 ^ 31) : vp_in (nI k) N := by
  obtain ⟨h, h2⟩ := h
  rw [tn_toInt] at h
  exact vp_in_nI (by omega) hN
theorem dn_lt {k : Nat} {b : Int32} (h : k + 1 ≤ b.toNatClampNeg) : k < 2 ^ 31 := by have := tn_lt b; omega
theorem ix_cld {k : Nat} {b : Int32} (h : k + 1 ≤ b.toNatClampNeg) : (nI k).toNatClampNeg = k := nI_clamp (dn_lt h)
theorem ix_down {k M N : Nat} {b : Int32} (h : k + 1 ≤ b.toNatClampNeg) (hb : 0 ≤ b.toInt ∧ b.toInt ≤ (M : Int)) (hM : M ≤ N) (hN : N < 2 ^ 31) : vp_in (nI k) N := by
  rw [tn_toInt] at h
  exact vp_in_nI (by omega) hN
theorem nI_tn {x : Int32} (h : 0 ≤ x.toInt) : nI x.toNatClampNeg = x := by
  rw [← Int32.toInt_inj, nI_toInt (tn_lt x), tn_toInt]
  omega
theorem dn_eq {x : Int32} (h : 0 ≤ x.toInt) : x - 1 = nI x.toNatClampNeg - 1 := by rw [nI_tn h]
theorem m1_sub (k : Nat) : nI k + (-1) = nI k - 1 := (Int32.sub_eq_add_neg (nI k) 1).symm
theorem vp_mono {x : Int32} {n m : Nat} (h : vp_in x n) (hm : n ≤ m) : vp_in x m := by
  rw [vp_in_iff] at h ⊢
  omega
section RD
variable {p : Program} {l : Launch} {e : Env} {R : Room} {s : State} {m : MethodId} {args : Array Value} {below : List Frame} {meth : Method} {c : Code} {H : Heap} {locs : List Loc} {cells slots : Nat} {Q : State → Prop}
variable {cc : ByteArray} {pc : Nat} {ls : Array Slot} {rest : List Value} {D : va_G} {cl : List vw_C} {A : Nat → Prop} {a : Nat} {tys : List (ClassId × FieldType)} {ws : va_W} {H0 : Heap}
theorem va_iald_k (hexec : p.tables.exec = Jvm.exec) (hb : c.code = cc) (hK : va_K D cl tys s) (hP : va_P D cl ws H) (q0 t0 : Nat) {cA : ClassId} {n k : Nat} {f : Nat → Int32} {v : Int32} (ha : ws[q0]? = some (a, .inl (cA, n, .inl f))) (ht : tys[t0]? = some (cA, .int)) {i : Int32} (hi : i.toNatClampNeg = k) (hv : f k = v) (hin : vp_in i n) (hdg : decode cc pc = .ok (.iaload, 1))
    (kk : W p l e R s m args below meth c H locs cells slots Q (F0 m (pc + 1) ls (.int v :: rest))) : W p l e R s m args below meth c H locs cells slots Q (F0 m pc ls (.int i :: .ref a :: rest)) := by
  subst hi; subst hv
  exact va_iald hexec hb hK hP q0 t0 ha ht hin hdg kk
theorem va_zald_k (hexec : p.tables.exec = Jvm.exec) (hb : c.code = cc) (hK : va_K D cl tys s) (hP : va_P D cl ws H) (q0 t0 : Nat) {cA : ClassId} {n k : Nat} {f : Nat → Int32} {v : Int32} (ha : ws[q0]? = some (a, .inl (cA, n, .inl f))) (ht : tys[t0]? = some (cA, .boolean)) {i : Int32} (hi : i.toNatClampNeg = k) (hv : f k = v) (hin : vp_in i n) (hdg : decode cc pc = .ok (.baload, 1))
    (kk : W p l e R s m args below meth c H locs cells slots Q (F0 m (pc + 1) ls (.int v :: rest))) : W p l e R s m args below meth c H locs cells slots Q (F0 m pc ls (.int i :: .ref a :: rest)) := by
  subst hi; subst hv
  exact va_zald hexec hb hK hP q0 t0 ha ht hin hdg kk
theorem va_iast_k (hexec : p.tables.exec = Jvm.exec) (hb : c.code = cc) (hK : va_K D cl tys s) (hP : va_P D cl ws H) (hD : va_D A ws) (hS : va_S A H0 H locs) (q0 t0 : Nat) {cA : ClassId} {n k : Nat} {f : Nat → Int32} (ha : ws[q0]? = some (a, .inl (cA, n, .inl f))) (ht : tys[t0]? = some (cA, .int)) {i : Int32} {x : Int32} (hi : i.toNatClampNeg = k) (hin : vp_in i n) (hdg : decode cc pc = .ok (.iastore, 1))
    (kk : ∀ (H1 : Heap) (locs1 : List Loc), va_P D cl (ws.set q0 (a, .inl (cA, n, .inl (upd f k x)))) H1 → va_D A (ws.set q0 (a, .inl (cA, n, .inl (upd f k x)))) → va_S A H0 H1 locs1 → W p l e R s m args below meth c H1 locs1 cells slots Q (F0 m (pc + 1) ls rest)) : W p l e R s m args below meth c H locs cells slots Q (F0 m pc ls (.int x :: .int i :: .ref a :: rest)) := by
  subst hi
  exact va_iast hexec hb hK hP hD hS q0 t0 ha ht hin hdg kk
theorem va_zast_k (hexec : p.tables.exec = Jvm.exec) (hb : c.code = cc) (hK : va_K D cl tys s) (hP : va_P D cl ws H) (hD : va_D A ws) (hS : va_S A H0 H locs) (q0 t0 : Nat) {cA : ClassId} {n k : Nat} {f : Nat → Int32} (ha : ws[q0]? = some (a, .inl (cA, n, .inl f))) (ht : tys[t0]? = some (cA, .boolean)) {i : Int32} {x : Int32} (hi : i.toNatClampNeg = k) (hin : vp_in i n) (hx : vp_nar .boolean x = x) (hdg : decode cc pc = .ok (.bastore, 1))
    (kk : ∀ (H1 : Heap) (locs1 : List Loc), va_P D cl (ws.set q0 (a, .inl (cA, n, .inl (upd f k x)))) H1 → va_D A (ws.set q0 (a, .inl (cA, n, .inl (upd f k x)))) → va_S A H0 H1 locs1 → W p l e R s m args below meth c H1 locs1 cells slots Q (F0 m (pc + 1) ls rest)) : W p l e R s m args below meth c H locs cells slots Q (F0 m pc ls (.int x :: .int i :: .ref a :: rest)) := by
  subst hi
  refine va_zast hexec hb hK hP hD hS q0 t0 ha ht hin hdg (fun H1 locs1 h1 h2 h3 => ?_)
  rw [hx] at h1 h2
  exact kk H1 locs1 h1 h2 h3
end RD
theorem sw_out6 {x : Int32} (h0 : ¬ x = 0) (h1 : ¬ x = 1) (h2 : ¬ x = 2) (h3 : ¬ x = 3) (h4 : ¬ x = 4) (h5 : ¬ x = 5) (h6 : ¬ x = 6) : x.toInt < 0 ∨ (6 : Int) < x.toInt := by
  rw [← Int32.toInt_inj, show (0 : Int32).toInt = 0 from by decide] at h0
  rw [← Int32.toInt_inj, show (1 : Int32).toInt = 1 from by decide] at h1
  rw [← Int32.toInt_inj, show (2 : Int32).toInt = 2 from by decide] at h2
  rw [← Int32.toInt_inj, show (3 : Int32).toInt = 3 from by decide] at h3
  rw [← Int32.toInt_inj, show (4 : Int32).toInt = 4 from by decide] at h4
  rw [← Int32.toInt_inj, show (5 : Int32).toInt = 5 from by decide] at h5
  rw [← Int32.toInt_inj, show (6 : Int32).toInt = 6 from by decide] at h6
  omega
theorem sw_out8 {x : Int32} (h0 : ¬ x = 0) (h1 : ¬ x = 1) (h2 : ¬ x = 2) (h3 : ¬ x = 3) (h4 : ¬ x = 4) (h5 : ¬ x = 5) (h6 : ¬ x = 6) (h7 : ¬ x = 7) (h8 : ¬ x = 8) : x.toInt < 0 ∨ (8 : Int) < x.toInt := by
  rw [← Int32.toInt_inj, show (0 : Int32).toInt = 0 from by decide] at h0
  rw [← Int32.toInt_inj, show (1 : Int32).toInt = 1 from by decide] at h1
  rw [← Int32.toInt_inj, show (2 : Int32).toInt = 2 from by decide] at h2
  rw [← Int32.toInt_inj, show (3 : Int32).toInt = 3 from by decide] at h3
  rw [← Int32.toInt_inj, show (4 : Int32).toInt = 4 from by decide] at h4
  rw [← Int32.toInt_inj, show (5 : Int32).toInt = 5 from by decide] at h5
  rw [← Int32.toInt_inj, show (6 : Int32).toInt = 6 from by decide] at h6
  rw [← Int32.toInt_inj, show (7 : Int32).toInt = 7 from by decide] at h7
  rw [← Int32.toInt_inj, show (8 : Int32).toInt = 8 from by decide] at h8
  omega
theorem sw_out3 {x : Int32} (h0 : ¬ x = 0) (h1 : ¬ x = 1) (h2 : ¬ x = 2) (h3 : ¬ x = 3) : x.toInt < 0 ∨ (3 : Int) < x.toInt := by
  rw [← Int32.toInt_inj, show (0 : Int32).toInt = 0 from by decide] at h0
  rw [← Int32.toInt_inj, show (1 : Int32).toInt = 1 from by decide] at h1
  rw [← Int32.toInt_inj, show (2 : Int32).toInt = 2 from by decide] at h2
  rw [← Int32.toInt_inj, show (3 : Int32).toInt = 3 from by decide] at h3
  omega
theorem sw_out9 {x : Int32} (h0 : ¬ x = 0) (h1 : ¬ x = 1) (h2 : ¬ x = 2) (h3 : ¬ x = 3) (h4 : ¬ x = 4) (h5 : ¬ x = 5) (h6 : ¬ x = 6) (h7 : ¬ x = 7) (h8 : ¬ x = 8) (h9 : ¬ x = 9) : x.toInt < 0 ∨ (9 : Int) < x.toInt := by
  rw [← Int32.toInt_inj, show (0 : Int32).toInt = 0 from by decide] at h0
  rw [← Int32.toInt_inj, show (1 : Int32).toInt = 1 from by decide] at h1
  rw [← Int32.toInt_inj, show (2 : Int32).toInt = 2 from by decide] at h2
  rw [← Int32.toInt_inj, show (3 : Int32).toInt = 3 from by decide] at h3
  rw [← Int32.toInt_inj, show (4 : Int32).toInt = 4 from by decide] at h4
  rw [← Int32.toInt_inj, show (5 : Int32).toInt = 5 from by decide] at h5
  rw [← Int32.toInt_inj, show (6 : Int32).toInt = 6 from by decide] at h6
  rw [← Int32.toInt_inj, show (7 : Int32).toInt = 7 from by decide] at h7
  rw [← Int32.toInt_inj, show (8 : Int32).toInt = 8 from by decide] at h8
  rw [← Int32.toInt_inj, show (9 : Int32).toInt = 9 from by decide] at h9
  omega

