/-! new int[n][k], made in one instruction: the outer array, then its rows one by one, each laid into its place. The state behind i rows, and what holds there. -/
def mz_o (cA : ClassId) (N b : Nat) : Nat → Cell
  | 0 => { cls := cA, slots := Array.replicate N .null, vm := .none }
  | i + 1 => (mz_o cA N b i).setSlot i (.ref (b + 1 + i))
def mz_r (cR : ClassId) (K : Nat) : Cell := { cls := cR, slots := Array.replicate K (.int 0), vm := .none }
def mz_t (T : State) (cA cR : ClassId) (N K : Nat) : Nat → State
  | 0 => T.pushCell (mz_o cA N T.heap.size 0)
  | i + 1 => ((mz_t T cA cR N K i).pushCell (mz_r cR K)).setCell T.heap.size (mz_o cA N T.heap.size (i + 1))
theorem mz_o_is (cA : ClassId) (N b : Nat) : ∀ i : Nat, (mz_o cA N b i).cls = cA ∧ (mz_o cA N b i).vm = .none ∧ (mz_o cA N b i).slots.size = N := by
  intro i
  induction i with
  | zero => exact ⟨rfl, rfl, by simp [mz_o]⟩
  | succ i ih =>
    obtain ⟨h1, h2, h3⟩ := ih
    refine ⟨?_, ?_, ?_⟩
    · show ((mz_o cA N b i).setSlot i _).cls = cA
      simp [Cell.setSlot, h1]
    · show ((mz_o cA N b i).setSlot i _).vm = .none
      simp [Cell.setSlot, h2]
    · show ((mz_o cA N b i).setSlot i _).slots.size = N
      simp [Cell.setSlot, h3]
theorem mz_t_is (T : State) (cA cR : ClassId) (N K : Nat) : ∀ i : Nat, (mz_t T cA cR N K i).heap.size = T.heap.size + 1 + i ∧ (mz_t T cA cR N K i).heap[T.heap.size]? = some (mz_o cA N T.heap.size i) ∧ (mz_t T cA cR N K i).vm = T.vm ∧ (mz_t T cA cR N K i).slotsUsed = T.slotsUsed + N + i * K := by
  intro i
  induction i with
  | zero => exact ⟨by simp [mz_t], by simp [mz_t], rfl, by simp [mz_t, mz_o]⟩
  | succ i ih =>
    obtain ⟨h1, h2, h3, h4⟩ := ih
    have hlt : T.heap.size < (mz_t T cA cR N K i).heap.size := by omega
    have hc : ((mz_t T cA cR N K i).pushCell (mz_r cR K)).heap[T.heap.size]? = some (mz_o cA N T.heap.size i) := by
      rw [State.heap_pushCell_of_lt (h := hlt)]
      exact h2
    refine ⟨?_, State.heap_setCell_self hc, ?_, ?_⟩
    · simp [mz_t, State.setCell, h1]
      omega
    · simp [mz_t, h3]
    · simp [mz_t, h4, mz_r, Nat.succ_mul]
      omega
theorem mz_t_top (T : State) (f : JFrame) (cA cR : ClassId) (N K : Nat) : ∀ i : Nat, mz_t (T.setTop f) cA cR N K i = (mz_t T cA cR N K i).setTop f := by
  intro i
  induction i with
  | zero => rfl
  | succ i ih => simp only [mz_t, ih, State.heap_setTop, State.pushCell_setTop, State.setCell_setTop]
theorem mz_t_old (T : State) (cA cR : ClassId) (N K : Nat) {a : Addr} (ha : a < T.heap.size) : ∀ i : Nat, (mz_t T cA cR N K i).heap[a]? = T.heap[a]? := by
  intro i
  induction i with
  | zero => exact State.heap_pushCell_of_lt _ _ ha
  | succ i ih =>
    have h1 := (mz_t_is T cA cR N K i).1
    have hlt : a < (mz_t T cA cR N K i).heap.size := Nat.lt_of_lt_of_le ha (by rw [h1]; omega)
    show (((mz_t T cA cR N K i).pushCell (mz_r cR K)).setCell T.heap.size _).heap[a]? = _
    rw [State.heap_setCell_other (Nat.ne_of_gt ha), State.heap_pushCell_of_lt (h := hlt)]
    exact ih
theorem mz_t_row (T : State) (cA cR : ClassId) (N K : Nat) : ∀ i j : Nat, j < i → (mz_t T cA cR N K i).heap[T.heap.size + 1 + j]? = some (mz_r cR K) := by
  intro i
  induction i with
  | zero => intro j hj; exact absurd hj (Nat.not_lt_zero j)
  | succ i ih =>
    intro j hj
    have h1 := (mz_t_is T cA cR N K i).1
    show (((mz_t T cA cR N K i).pushCell (mz_r cR K)).setCell T.heap.size _).heap[T.heap.size + 1 + j]? = _
    rw [State.heap_setCell_other (show T.heap.size ≠ T.heap.size + 1 + j from by omega)]
    by_cases e : j = i
    · subst e
      rw [show T.heap.size + 1 + j = (mz_t T cA cR N K j).heap.size from by rw [h1]]
      simp
    · rw [State.heap_pushCell_of_lt (h := (show T.heap.size + 1 + j < (mz_t T cA cR N K i).heap.size from by rw [h1]; omega))]
      exact ih j (by omega)
theorem mz_o_slot (cA : ClassId) (N b : Nat) : ∀ i j : Nat, i ≤ N → j < N → (mz_o cA N b i).slots[j]? = some (if j < i then .ref (b + 1 + j) else .null) := by
  intro i
  induction i with
  | zero => intro j _ hj; rw [if_neg (Nat.not_lt_zero j)]; simp [mz_o, hj]
  | succ i ih =>
    intro j hi hj
    have h := ih j (by omega) hj
    have hs := (mz_o_is cA N b i).2.2
    show ((mz_o cA N b i).setSlot i (.ref (b + 1 + i))).slots[j]? = _
    by_cases e : j = i
    · subst e
      rw [if_pos (by omega)]
      simp [Cell.setSlot, hs, hj]
    · have e1 : ((mz_o cA N b i).setSlot i (.ref (b + 1 + i))).slots[j]? = (mz_o cA N b i).slots[j]? := by simp [Cell.setSlot, Array.getElem?_setIfInBounds, Ne.symm e]
      rw [e1, h]
      by_cases e2 : j < i
      · rw [if_pos e2, if_pos (by omega)]
      · rw [if_neg e2, if_neg (by omega)]
theorem mz_o_mon (cA : ClassId) (N b : Nat) : ∀ i : Nat, (mz_o cA N b i).monitor = {} ∧ (mz_o cA N b i).hash = none := by
  intro i
  induction i with
  | zero => exact ⟨rfl, rfl⟩
  | succ i ih =>
    obtain ⟨h1, h2⟩ := ih
    refine ⟨?_, ?_⟩
    · show ((mz_o cA N b i).setSlot i _).monitor = {}
      simp [Cell.setSlot, h1]
    · show ((mz_o cA N b i).setSlot i _).hash = none
      simp [Cell.setSlot, h2]
theorem mz_o_cell (cA : ClassId) (N b : Nat) : mz_o cA N b N = vp_cell cA (N, .inr (.inr (.inr (.inr (fun i => if i < N then some (b + 1 + i) else none))))) := by
  rw [vp_cell_q]
  obtain ⟨h1, h2, h3⟩ := mz_o_is cA N b N
  have h4 := mz_o_slot cA N b N
  obtain ⟨h5, h6⟩ := mz_o_mon cA N b N
  generalize mz_o cA N b N = c at h1 h2 h3 h4 h5 h6
  obtain ⟨cls, slots, mon, hsh, vm⟩ := c
  have h1 : cls = cA := h1
  have h2 : vm = VmData.none := h2
  have h5 : mon = {} := h5
  have h6 : hsh = none := h6
  have h3 : slots.size = N := h3
  have h4 : ∀ j : Nat, N ≤ N → j < N → slots[j]? = some (if j < N then .ref (b + 1 + j) else .null) := h4
  subst h1; subst h2; subst h5; subst h6
  unfold arrV
  congr 1
  apply Array.ext
  · rw [show slots.size = N from h3]; simp
  · intro i g1 g2
    have g : i < N := by rw [show slots.size = N from h3] at g1; exact g1
    have a := h4 i (Nat.le_refl _) g
    rw [if_pos g, Array.getElem?_eq_getElem g1] at a
    rw [Option.some.inj a]
    simp [g, va_rf]
theorem mz_r_cell (cR : ClassId) (K : Nat) : mz_r cR K = vp_cell cR (K, .inl (fun _ => 0)) := by
  rw [vp_cell_i]
  unfold mz_r arrV
  congr 1
  apply Array.ext
  · simp
  · intro i g1 g2
    simp
section MZ
variable {E : CtlPost} {e : Env} {d : Bool} {acts : List Action} {s : State}
theorem mz_arr {c comp : ClassId} {k : Class} {type : FieldType} {len : Nat} {v0 : Value} (hk : s.vm.classes[c]? = some k) (hkind : k.kind = .array comp type) (hlim : ¬ len > e.platform.arrayLengthLimit) (hby : ¬ len * componentBytes type > e.platform.maxHeapBytes) (hfit : fits type v0 = true) (hdef : v0.isDefault = true) {Q : Addr → Pre} (h1 : s.heap.size < e.platform.maxCells) (h2 : s.slotsUsed + len ≤ e.platform.maxSlots) (hq : Q s.heap.size d acts (s.pushCell { cls := c, slots := Array.replicate len v0, vm := .none })) : wp (Jvm.newArray c len v0) Q E e d acts s := by
  have hall : ((Array.replicate len v0).all (·.isDefault)) = true := by
    rw [Array.all_replicate]
    split <;> simp [hdef]
  have ha : allocActs (Array.replicate len v0) s.heap.size acts = acts := by
    unfold allocActs
    rw [if_pos hall]
  have hf : ∀ i v, (Array.replicate len v0)[i]? = some v → s.fitsSlot c .none i v = true := by
    intro i v hv
    rw [Array.getElem?_replicate] at hv
    split at hv
    · cases hv
      simp [State.fitsSlot, State.slotType?, hk, hkind, hfit]
    · cases hv
  simp only [Jvm.newArray, Jvm.arrayFits, wp_bind', W.ask, W.ite, hlim, if_false, wp_pure', W.theClass, hk, hkind, hby, W.alloc, W.stop, Option.some.injEq, exists_eq_left', Array.size_replicate, ha]
  rw [if_neg (by omega)]
  exact ⟨h1, h2, hf, hq⟩
theorem mz_one {cR cc : ClassId} {kc : Class} {k : Int32} (hkc : s.vm.classes[cR]? = some kc) (hkind : kc.kind = .array cc .int) (hk : ¬ k < 0) (hlim : ¬ k.toNatClampNeg > e.platform.arrayLengthLimit) (hby : ¬ k.toNatClampNeg * componentBytes .int > e.platform.maxHeapBytes) (h1 : s.heap.size < e.platform.maxCells) (h2 : s.slotsUsed + k.toNatClampNeg ≤ e.platform.maxSlots) {Q : Addr → Pre} (hq : Q s.heap.size d acts (s.pushCell (mz_r cR k.toNatClampNeg))) : wp (multianewarray.make cR [k]) Q E e d acts s := by
  rw [multianewarray.make]
  simp only [wp_bind', W.ite, hk, if_false, wp_pure', W.theClass, hkc, hkind, Option.some.injEq, exists_eq_left']
  exact mz_arr hkc hkind hlim hby rfl rfl h1 h2 hq
theorem mz_two {cA cR cc : ClassId} {ka kc : Class} {n k : Int32} (hka : s.vm.classes[cA]? = some ka) (hkinda : ka.kind = .array cR (.array .int)) (hkc : s.vm.classes[cR]? = some kc) (hkind : kc.kind = .array cc .int) (hn : ¬ n < 0) (hk : ¬ k < 0) (hl1 : ¬ n.toNatClampNeg > e.platform.arrayLengthLimit) (hh1 : ¬ n.toNatClampNeg * componentBytes (.array .int) > e.platform.maxHeapBytes) (hl2 : ¬ k.toNatClampNeg > e.platform.arrayLengthLimit) (hh2 : ¬ k.toNatClampNeg * componentBytes .int > e.platform.maxHeapBytes) (hc : s.heap.size + 1 + n.toNatClampNeg ≤ e.platform.maxCells) (hs : s.slotsUsed + n.toNatClampNeg + n.toNatClampNeg * k.toNatClampNeg ≤ e.platform.maxSlots) {Q : Addr → Pre} (hq : ∀ d' acts', Q s.heap.size d' acts' (mz_t s cA cR n.toNatClampNeg k.toNatClampNeg n.toNatClampNeg)) : wp (multianewarray.make cA [n, k]) Q E e d acts s := by
  have hfind : ([k].find? (· < 0)) = none := by simp [hk]
  rw [multianewarray.make]
  simp only [wp_bind', W.ite, hn, if_false, wp_pure', W.theClass, hka, hkinda, Option.some.injEq, exists_eq_left']
  refine mz_arr hka hkinda hl1 hh1 rfl rfl (by omega) (by have := Nat.zero_le (n.toNatClampNeg * k.toNatClampNeg); omega) ?_
  simp only [hfind]
  rw [ite_self, wp_bind', Std.Legacy.Range.forIn_eq_forIn_range']
  generalize hN : n.toNatClampNeg = N at *
  generalize hKn : k.toNatClampNeg = K at *
  have hsz : ([:N] : Std.Legacy.Range).size = N := by simp [Std.Legacy.Range.size]
  rw [hsz]
  show wp (forIn (List.range' 0 N 1) PUnit.unit _) _ E e d acts _
  refine wp_forIn_inv (fun todo s' => ∃ i, i ≤ N ∧ todo = List.range' i (N - i) ∧ s' = mz_t s cA cR N K i) _ _ ⟨0, Nat.zero_le _, rfl, rfl⟩ ?_ ?_
  · rintro x todo s' d' acts' Q' ⟨i, hi, hl, rfl⟩ hnext
    have hlt : i < N := by
      rcases Nat.lt_or_ge i N with h | h
      · exact h
      · rw [show N - i = 0 from by omega] at hl
        simp at hl
    rw [show N - i = (N - (i + 1)) + 1 from by omega, List.range'_succ] at hl
    obtain ⟨rfl, htodo⟩ := List.cons.inj hl
    obtain ⟨f1, f2, f3, f4⟩ := mz_t_is s cA cR N K x
    obtain ⟨o1, o2, o3⟩ := mz_o_is cA N s.heap.size x
    have hmul : x * K + K ≤ N * K := by
      have h := Nat.mul_le_mul_right K (show x + 1 ≤ N from hlt)
      rw [Nat.succ_mul] at h
      exact h
    simp only [wp_bind']
    refine mz_one (by rw [f3]; exact hkc) hkind hk (by rw [hKn]; exact hl2) (by rw [hKn]; exact hh2) (by rw [f1]; omega) (by rw [f4, hKn]; omega) ?_
    rw [hKn]
    have hlt0 : s.heap.size < (mz_t s cA cR N K x).heap.size := by rw [f1]; omega
    simp only [wp_bind', W.writeLoc, wp_pure']
    refine ⟨mz_o cA N s.heap.size x, by rw [State.heap_pushCell_of_lt (h := hlt0)]; exact f2, by rw [o2]; simp, by rw [o3]; exact hlt, ?_, hnext _ _ _ ⟨x + 1, hlt, htodo, ?_⟩⟩
    · rw [o1, o2]
      simp [State.fitsSlot, State.slotType?, f3, hka, hkinda, fits]
    · rw [f1]
      rfl
  · rintro s' d' acts' ⟨i, hi, hl, rfl⟩
    have hiN : i = N := by
      rcases Nat.lt_or_ge i N with h | h
      · rw [show N - i = (N - (i + 1)) + 1 from by omega, List.range'_succ] at hl
        cases hl
      · omega
    subst hiN
    simp only [wp_pure']
    exact hq _ _
end MZ
section MY
variable {p : Program} {l : Launch} {e : Env} {R : Room} {s : State} {m : MethodId} {args : Array Value} {below : List Frame} {meth : Method} {c : Code} {H : Heap} {locs : List Loc} {cells slots : Nat} {Q : State → Prop}
theorem mz_stand {T : State} (X : Stand p l e R s m args below meth c T locs cells slots) (cA cR : ClassId) (N K : Nat) : ∀ i : Nat, Stand p l e R s m args below meth c (mz_t T cA cR N K i) (locs ++ (List.range i).map fun j => ⟨T.heap.size, j⟩) (cells + 1 + i) (slots + N + i * K) := by
  intro i
  induction i with
  | zero =>
    have h := X.pushed (mz_o cA N T.heap.size 0)
    rw [(mz_o_is cA N T.heap.size 0).2.2] at h
    simpa [mz_t] using h
  | succ i ih =>
    obtain ⟨f1, f2, f3, f4⟩ := mz_t_is T cA cR N K i
    have hlt0 : T.heap.size < (mz_t T cA cR N K i).heap.size := by rw [f1]; omega
    have hcell : ((mz_t T cA cR N K i).pushCell (mz_r cR K)).heap[T.heap.size]? = some (mz_o cA N T.heap.size i) := by
      rw [State.heap_pushCell_of_lt (h := hlt0)]
      exact f2
    have h := (ih.pushed (mz_r cR K)).stored hcell i (.ref (T.heap.size + 1 + i))
    rw [show (mz_r cR K).slots.size = K from by simp [mz_r]] at h
    rw [show (locs ++ (List.range (i + 1)).map fun j => (⟨T.heap.size, j⟩ : Loc)) = (locs ++ (List.range i).map fun j => (⟨T.heap.size, j⟩ : Loc)) ++ [⟨T.heap.size, i⟩] from by simp [List.range_succ, List.append_assoc], show slots + N + (i + 1) * K = slots + N + i * K + K from by rw [Nat.succ_mul]; omega]
    exact h
theorem mz_W {cc : ByteArray} (hexec : p.tables.exec = Jvm.exec) (hb : c.code = cc) {own : String} {index : Nat} (hown : s.vm.findClass own = some m.cls) (hclink : (Cond.classLink own index ("[" ++ (FieldType.array .int).toString)).before args s = true) (hover : (Cond.arrayOver (.array .int)).before args s = true) (harr : (Cond.arrayClass .int).before args s = true)
    {g : JFrame} (hg : g.method = m) (hdg : decode cc g.pc = .ok (.multianewarray index 2, 4)) {n k : Int32} {N K : Nat} {rest : List Value} (hstack : g.stack = .int k :: .int n :: rest) (hn : ¬ n < 0) (hk : ¬ k < 0) (hN : n.toNatClampNeg = N) (hKn : k.toNatClampNeg = K) (hb1 : N * 4 ≤ 536870912) (hb2 : K * 4 ≤ 536870912) (hcells : cells + (1 + N) ≤ R.cells) (hslots : slots + (N + N * K) ≤ R.slots)
    (kk : ∀ (H1 : Heap) (cA cR : ClassId), s.vm.findClass ("[" ++ (FieldType.array .int).toString) = some cA → s.vm.findClass (FieldType.array .int).toString = some cR → H1[H.size]? = some (mz_o cA N H.size N) → (∀ j : Nat, j < N → H1[H.size + 1 + j]? = some (mz_r cR K)) → H1.size = H.size + 1 + N → (∀ q : Nat, q < H.size → H1[q]? = H[q]?) → W p l e R s m args below meth c H1 locs (cells + 1 + N) (slots + N + N * K) Q { g with pc := g.pc + 4, stack := .ref H.size :: rest }) : W p l e R s m args below meth c H locs cells slots Q g := by
  intro T hT X
  subst hT; subst hb; subst hg
  have hpl : e.platform.magicAccessors = ({} : Platform).magicAccessors := by rw [X.admits.platform]
  obtain ⟨cR, cA, kA, hR, -, hkA, hkindA, hnA⟩ := arrayOverA_spec hover
  obtain ⟨cR', kC, cc', hR', hkC, hkindC⟩ := Cond.arrayClass_spec harr
  have eR : cR' = cR := Option.some.inj (hR'.symm.trans hR)
  subst eR
  obtain ⟨c0, hf0, hcl⟩ := Cond.classLink_spec hown hclink e.platform hpl
  cases hnA.symm.trans hf0
  obtain ⟨hg₁, hwarm₁, hready₁⟩ := State.classEntry (e := e) X.warmed hcl
  generalize T.vm.noted g.method.cls index (.cls cA) = vm₁ at hg₁ hwarm₁ hready₁
  have hal : s.vm.Alike vm₁ := hwarm₁.alike
  obtain ⟨kA₁, hkA₁, heA⟩ := hal.2.2 _ _ hkA
  obtain ⟨kC₁, hkC₁, heC⟩ := hal.2.2 _ _ hkC
  have hkindA₁ : kA₁.kind = .array cR' (.array .int) := by rw [heA]; exact hkindA
  have hkindC₁ : kC₁.kind = .array cc' .int := by rw [heC]; exact hkindC
  have X₁ := X.noted hwarm₁
  obtain ⟨hr1, hr2⟩ := X.roomAbove hcells hslots
  have XF := mz_stand X₁ cA cR' N K N
  have hfr : ∀ y ∈ ((List.range N).map fun j => (⟨(T.setVm vm₁).heap.size, j⟩ : Loc)), s.heap.size ≤ y.base := by
    intro y hy
    obtain ⟨j, -, rfl⟩ := List.mem_map.mp hy
    exact X.same.2.1
  have XG := Stand.forget XF hfr
  obtain ⟨t, a1, b1⟩ := kk (mz_t (T.setVm vm₁) cA cR' N K N).heap cA cR' hnA hR (mz_t_is (T.setVm vm₁) cA cR' N K N).2.1 (fun j hj => mz_t_row (T.setVm vm₁) cA cR' N K N j hj) (mz_t_is (T.setVm vm₁) cA cR' N K N).1 (fun q hq => mz_t_old (T.setVm vm₁) cA cR' N K hq N) _ rfl XG
  refine ⟨t, ?_, b1⟩
  have hl1 : ¬ n.toNatClampNeg > e.platform.arrayLengthLimit := by rw [Launch.admits_arrayLengthLimit X.admits, hN]; omega
  have hh1 : ¬ n.toNatClampNeg * componentBytes (.array .int) > e.platform.maxHeapBytes := by
    rw [Launch.admits_maxHeapBytes X.admits, hN]
    show ¬ N * 4 > 536870912
    omega
  have hl2 : ¬ k.toNatClampNeg > e.platform.arrayLengthLimit := by rw [Launch.admits_arrayLengthLimit X.admits, hKn]; omega
  have hh2 : ¬ k.toNatClampNeg * componentBytes .int > e.platform.maxHeapBytes := by
    rw [Launch.admits_maxHeapBytes X.admits, hKn]
    show ¬ K * 4 > 536870912
    omega
  jvm_step X.here [hexec, hdg]
  simp only [multianewarray.sem, wp_bind', W.resolveClassAt_links (State.method?_setTop g X.here.top) hg₁]
  rw [W.popN, if_neg (by decide)]
  refine ⟨g, State.topJava?_setTop' (s := T.setVm vm₁) g X.here.top, [.int n, .int k], rest, rfl, hstack, ?_⟩
  simp only [List.mapM_cons, List.mapM_nil, wp_bind', wp_pure']
  refine mz_two (ka := kA₁) (kc := kC₁) hkA₁ hkindA₁ hkC₁ hkindC₁ hn hk hl1 hh1 hl2 hh2 (by rw [hN]; show T.heap.size + 1 + _ ≤ _; omega) (by rw [hN, hKn]; show T.slotsUsed + _ + _ ≤ _; omega) (fun d' acts' => ?_)
  rw [hN, hKn, show ((T.setTop g).setVm vm₁).setTop { g with stack := rest } = (T.setVm vm₁).setTop { g with stack := rest } from by
    show ((T.setVm vm₁).setTop g).setTop _ = _
    rw [State.setTop_setTop], mz_t_top]
  simp only [wp_bind', W.mark, W.pushRef, State.topJava?_setTop' _ XF.here.top, Option.some.injEq, exists_eq_left', State.setTop_setTop, State.heap_setTop]
  intro acts
  simp [jvm, XF.here.top]
  exact a1
variable {cc : ByteArray} {pc : Nat} {ls : Array Slot} {rest : List Value} {D : va_G} {cl : List vw_C} {A : Nat → Prop} {ws : va_W} {H0 : Heap}
theorem mz_va (hexec : p.tables.exec = Jvm.exec) (hb : c.code = cc) {own : String} {index : Nat} (hown : s.vm.findClass own = some m.cls) (hclink : (Cond.classLink own index ("[" ++ (FieldType.array .int).toString)).before args s = true) (hover : (Cond.arrayOver (.array .int)).before args s = true) (harr : (Cond.arrayClass .int).before args s = true) {tys : List (ClassId × FieldType)} {cI cQ : ClassId} (hK : va_K D cl tys s) (t0 t6 : Nat) (ht0 : tys[t0]? = some (cI, .int)) (ht6 : tys[t6]? = some (cQ, .array .int)) (hP : va_P D cl ws H) (hD : va_D A ws) (hS : va_S A H0 H locs) (hA : ∀ q, H0.size ≤ q → A q)
    {n k : Int32} {N K : Nat} (hn : ¬ n < 0) (hk : ¬ k < 0) (hN : n.toNatClampNeg = N) (hKn : k.toNatClampNeg = K) (hb1 : N * 4 ≤ 536870912) (hb2 : K * 4 ≤ 536870912) (hcells : cells + (1 + N) ≤ R.cells) (hslots : slots + (N + N * K) ≤ R.slots) (hdg : decode cc pc = .ok (.multianewarray index 2, 4))
    (kk : ∀ (q : Nat) (H1 : Heap), va_P D cl (ws ++ ((q, .inl (cQ, N, .inr (.inr (.inr (.inr (fun i => if i < N then some (q + 1 + i) else none)))))) :: (List.range N).map (fun i => (q + 1 + i, (.inl (cI, K, .inl (fun _ => 0)) : va_E))))) H1 → va_D A (ws ++ ((q, .inl (cQ, N, .inr (.inr (.inr (.inr (fun i => if i < N then some (q + 1 + i) else none)))))) :: (List.range N).map (fun i => (q + 1 + i, (.inl (cI, K, .inl (fun _ => 0)) : va_E))))) → va_S A H0 H1 locs → W p l e R s m args below meth c H1 locs (cells + 1 + N) (slots + N + N * K) Q (F0 m (pc + 4) ls (.ref q :: rest))) : W p l e R s m args below meth c H locs cells slots Q (F0 m pc ls (.int k :: .int n :: rest)) := by
  refine mz_W hexec hb hown hclink hover harr (g := F0 m pc ls (.int k :: .int n :: rest)) rfl hdg rfl hn hk hN hKn hb1 hb2 hcells hslots (fun H1 cA cR fA fR hO hrow z1 o1 => ?_)
  have eI : cR = cI := Option.some.inj (fR.symm.trans (hK.2 t0 _ ht0).2)
  have eQ : cA = cQ := Option.some.inj (fA.symm.trans (hK.2 t6 _ ht6).2)
  subst eI; subst eQ
  have hnew : ∀ (j : Nat) (x : Nat × va_E), ((H.size, (.inl (cA, N, .inr (.inr (.inr (.inr (fun i => if i < N then some (H.size + 1 + i) else none))))) : va_E)) :: (List.range N).map (fun i => (H.size + 1 + i, (.inl (cR, K, .inl (fun _ => 0)) : va_E))))[j]? = some x → x.1 = H.size + j ∧ va_at D cl x H1 := by
    intro j x hx
    cases j with
    | zero =>
      obtain rfl := Option.some.inj hx
      exact ⟨rfl, by show H1[H.size]? = some (vp_cell _ _); rw [hO, mz_o_cell]⟩
    | succ j =>
      rw [List.getElem?_cons_succ, List.getElem?_map] at hx
      by_cases hj : j < N
      · rw [List.getElem?_range hj] at hx
        obtain rfl := Option.some.inj hx
        exact ⟨by show H.size + 1 + j = H.size + (j + 1); omega, by show H1[H.size + 1 + j]? = some (vp_cell _ _); rw [hrow j hj, mz_r_cell]⟩
      · rw [List.getElem?_eq_none (by rw [List.length_range]; omega)] at hx
        cases hx
  refine kk H.size H1 (va_P.app (hP.kept (fun i x hx => o1 x.1 ((hP i x hx).lt))) (fun j x hx => (hnew j x hx).2)) (va_D.app hD ⟨fun i j x y hx hy e => ?_, fun j x hx => ?_⟩ (fun i j x y hx hy e => ?_)) ⟨Nat.le_trans hS.1 (by omega), fun x h1 h2 => (o1 x (Nat.lt_of_lt_of_le h1 hS.1)).trans (hS.2.1 x h1 h2), hS.2.2⟩
  · have a := (hnew i x hx).1
    have b := (hnew j y hy).1
    omega
  · rw [(hnew j x hx).1]
    exact hA _ (Nat.le_trans hS.1 (Nat.le_add_right _ _))
  · have a := (hP i x hx).lt
    have b := (hnew j y hy).1
    omega
end MY
/-- that int[][] is there; it stays so while the machine goes on -/
def aoa (U : State) : Prop := (Cond.arrayOver (.array .int)).before #[] U = true
theorem aoa_use {B : Array Value} {U : State} (h : aoa U) : (Cond.arrayOver (.array .int)).before B U = true := h
theorem aoa_mv {u U : State} (hvm : u.vm.Alike U.vm) (h : aoa u) : aoa U := by
  obtain ⟨comp, c, k, h1, h2, h3, h4, h5⟩ := arrayOverA_spec h
  obtain ⟨k', hk', he⟩ := hvm.2.2 _ _ h3
  have hi : (U.vm.classes.findIdx? fun (x : Class) => match x.kind with | .array component _ => component == comp | _ => false) = some c := by
    refine (va_idx_bare U.vm comp).symm.trans ?_
    first | rw [hvm.bare_eq] | rw [← hvm.bare_eq]
    exact (va_idx_bare u.vm comp).trans h2
  have hkind : k'.kind = .array comp (.array .int) := by rw [he]; exact h4
  have f1 : U.vm.findClass (FieldType.array .int).toString = some comp := by rw [hvm.findClass]; exact h1
  have f2 : U.vm.findClass ("[" ++ (FieldType.array .int).toString) = some c := by rw [hvm.findClass]; exact h5
  unfold aoa Cond.before Cond.holds
  simp only [Cond.value]
  rw [f1, Option.bind_some]
  refine (congrArg (fun o : Option Nat => (o.bind (fun c => (U.vm.classes[c]?).map fun (k : Class) => match k.kind with | .array _ ty => decide (ty = FieldType.array .int) && decide (U.vm.findClass ("[" ++ (FieldType.array .int).toString) = some c) | _ => false) == some true)) hi).trans ?_
  simp [hk', hkind, f2]

