/-! THE CLAIM OUT OF ONE WALK OF THE LAW'S BODY. Your part is whole_start (and what it stands on); all else here is the same for every law, but numbers. -/
def R_law : String := "GrazeBookLaw"
def lw_P (b : Addr) (xs : List Int32) (args : Array Value) (s : State) : Prop := args = #[.ref b] ∧ s.IntsAt b xs ∧ xs.length ≤ 3072 ∧ (Jvm.Cond.and given_1 narrow_1).before args s = true
def lw_Q (_ : Array Value) (s : State) (o : Outcome) (t : State) : Prop := o = .returned (some (.int 1)) ∧ Framed s o t [] 600000 7302250
def lw_Z (below : List Frame) (a : Array Value) (s : State) : State → Prop := fun t => ∃ o, t.status = .running ∧ Ended t below o ∧ lw_Q a s o t
/-- the law's own end, with 1 on the stack, nothing written that was there before, its room as the claim has it -/
theorem lw_ret {p : Program} {l : Launch} {e : Env} {s : State} {m : MethodId} {below : List Frame} {meth : Method} {c : Code} {b : Nat} (hx : p.tables.exec = Jvm.exec) (hb : c.code = code) (hr : meth.sig.returnType = ret) (hlocks : meth.locks = false) {pc : Nat} {H : Heap} {ls : Array Slot} (hdg : decode code pc = .ok (.ireturn, 1)) : W p l e room_1 s m #[Value.ref b] below meth c H [] 600000 7302250 (lw_Z below #[Value.ref b] s) (F0 m pc ls [.int 1]) := by
  intro T hT X
  obtain ⟨fs, hret, hrun, hended, hW, hframe⟩ := X.leave (v := some (.int 1)) (hlocks := hlocks) (fun h => by rw [hr] at h; cases h)
  have hmeth' : T.vm.method? m = some meth := X.method'
  refine ⟨T.setFrames fs, ?_, .returned (some (.int 1)), hrun, hended, rfl, ⟨_, rfl⟩, hW, hframe⟩
  jvm_step X.here [X.here.top, hx, hb, hdg, hmeth', hr, ret, narrow_b1]
  (try refine ⟨rfl, ?_⟩); (try refine ⟨rfl, ?_⟩)
  first | (intro acts; rw [hret _ acts rfl rfl rfl]) | rw [hret _ _ rfl rfl rfl]
  exact Steps.refl _
/-- what holds at the law's entry: the machine, the code, the tables' words (any of lw_tbl by 'hts w (by decide +kernel)'), the script of L ints xs at the cell b, what the Statement gives of the start (any of its parts by flat_of_before) -/
def lw_At (p : Program) (s : State) (m : MethodId) (meth : Method) (c : Code) (b L : Nat) (xs : Nat → Int32) : Prop :=
  p.tables.exec = Jvm.exec ∧ c.code = code ∧ meth.sig.returnType = ret ∧ c.maxLocals = 4 ∧ s.vm.findClass R_law = some m.cls ∧ (∀ w ∈ lw_tbl, w.before #[Value.ref b] s = true) ∧ va_X b L xs s s.heap ∧ b < s.heap.size ∧ meth.locks = false ∧ (Jvm.Cond.and given_1 narrow_1).before #[Value.ref b] s = true

section LW
variable {p : Program} {l : Launch} {e : Env} {s : State} {m : MethodId} {below : List Frame} {meth : Method} {c : Code} {D : va_G} {ca : Nat → ClassId} {A : Nat → Prop} {b L tb gx gm k : Nat} {ax am : Nat → Nat} {xs : Nat → Int32}
/-- what the law's loop stands on: the entry's words, the parts of the heap that are new, the known classes, the static table -/
def LH (p : Program) (s : State) (m : MethodId) (meth : Method) (c : Code) (D : va_G) (ca : Nat → ClassId) (A : Nat → Prop) (b L tb : Nat) (xs : Nat → Int32) : Prop := lw_At p s m meth c b L xs ∧ (∀ q : Nat, s.heap.size ≤ q → A q) ∧ (∀ q : Nat, A q → s.heap.size ≤ q) ∧ va_K D vwCl (TY ca) s ∧ SX tb A s s.heap ∧ L ≤ 3072
/-- behind k calls, at pc: from every pair of states that are related the law comes to its end with true -/
def LN (p : Program) (l : Launch) (e : Env) (s : State) (m : MethodId) (below : List Frame) (meth : Method) (c : Code) (D : va_G) (ca : Nat → ClassId) (A : Nat → Prop) (b gx gm : Nat) (ax am : Nat → Nat) (k pc : Nat) : Prop :=
  ∀ (pa : Nat → Nat → Nat) (σx σm : St) (H : Heap) (locs : List Loc) (ls : Array Slot), va_P D vwCl (WC ca gx ax pa σx ++ WM ca gm am σm) H → va_D A (WC ca gx ax pa σx ++ WM ca gm am σm) → va_S A s.heap H locs → lv_has ls 4 [(3, .int (nI (6 * k))), (2, .ref gm), (1, .ref gx), (0, .ref b)] → IX σx → IR σm → JR σm → (σm 7 0).toInt ≤ (k : Int) → Rel k σx σm →
    W p l e room_1 s m #[Value.ref b] below meth c H locs (70 + k) (3691 + 10 * k) (lw_Z below #[Value.ref b] s) (F0 m pc ls [])
theorem lq {n : Nat} {v : Int32} (hv : v = nI n) (hn : n < 6) (hk : 6 * k + 6 ≤ L) (hL : L ≤ 3072) : vp_in (nI (6 * k) + v) L := by
  subst hv
  rw [nI_add, vp_in_iff, nI_toInt (by omega)]
  omega
theorem lq0 (hk : 6 * k + 6 ≤ L) (hL : L ≤ 3072) : vp_in (nI (6 * k)) L := by
  rw [vp_in_iff, nI_toInt (by omega)]
  omega
theorem rm_ok {a d : Nat} (hk : k ≤ 513) (ha : a ≤ 2) (hd : d ≤ 20) : 70 + k + a ≤ room_1.cells ∧ 3691 + 10 * k + d ≤ room_1.slots := ⟨show 70 + k + a ≤ 600000 by omega, show 3691 + 10 * k + d ≤ 7302250 by omega⟩
theorem o7a {τ σ : St} (e : τ 7 0 = σ 7 0) (h : (σ 7 0).toInt ≤ (k : Int)) : (τ 7 0).toInt ≤ ((k + 1 : Nat) : Int) := by
  rw [e]
  omega
theorem o7b {τ σ : St} (e : τ 7 0 = σ 7 0 ∨ τ 7 0 = σ 7 0 + 1) (h : (σ 7 0).toInt ≤ (k : Int)) (hk : k ≤ 513) : (τ 7 0).toInt ≤ ((k + 1 : Nat) : Int) := by
  rcases e with e | e
  · exact o7a e h
  · have e1 : (1 : Int32).toInt = 1 := by decide
    have h1 := Int32.le_toInt (σ 7 0)
    have h0 : (-2147483648 : Int) ≤ (σ 7 0).toInt := by simpa using h1
    rw [e, add_ti (by rw [e1]; omega) (by rw [e1]; omega), e1]
    omega
set_option maxHeartbeats 1000000 in
/-- at the end of a call: on to the next -/
theorem lc_next (G : LH p s m meth c D ca A b L tb xs) (nx : LN p l e s m below meth c D ca A b gx gm ax am (k + 1) 18) (pa : Nat → Nat → Nat) (σx σm : St) (H : Heap) (locs : List Loc) (ls : Array Slot) (hP : va_P D vwCl (WC ca gx ax pa σx ++ WM ca gm am σm) H) (hD : va_D A (WC ca gx ax pa σx ++ WM ca gm am σm)) (hS : va_S A s.heap H locs) (hl : lv_has ls 4 [(3, .int (nI (6 * k))), (2, .ref gm), (1, .ref gx), (0, .ref b)]) (hI : IX σx) (hJ : IR σm) (hJR : JR σm) (h7 : (σm 7 0).toInt ≤ ((k + 1 : Nat) : Int)) (hR : Rel (k + 1) σx σm) : W p l e room_1 s m #[Value.ref b] below meth c H locs (70 + (k + 1)) (3691 + 10 * (k + 1)) (lw_Z below #[Value.ref b] s) (F0 m 1093 ls []) := by
  obtain ⟨⟨hx, hb, hr, hml, hown, hts0, hX, hbl, hlocks, hgv⟩, -, -, -, -, -⟩ := G
  refine lv_iinc (v := nI (6 * (k + 1))) (lv' := [(3, .int (nI (6 * (k + 1)))), (2, .ref gm), (1, .ref gx), (0, .ref b)]) hx hb dL_law_1093 hl (k := 0) rfl ?_ (by decide) rfl (fun ls hl => ?_)
  · rw [show 6 * (k + 1) = 6 * k + 6 by omega, ← nI_add]
    rfl
  refine lv_goto (tgt := 18) hx hb dL_law_1096 (by decide) ?_
  exact nx pa σx σm H locs ls hP hD hS hl hI hJ hJR h7 hR
end LW
