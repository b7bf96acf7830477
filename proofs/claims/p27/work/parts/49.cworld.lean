def fxC (ca : Nat → ClassId) (h : Nat) (ad : Nat → Nat) (pa : Nat → Nat → Nat) (σ : St) : va_W := [(h, .inr (8, [.ref (ad 800), .ref (ad 801), .ref (ad 802), .ref (ad 803), .ref (ad 804), .ref (ad 805), .ref (ad 806), .ref (ad 807), .ref (ad 808), .ref (ad 809), .ref (ad 810), .int (σ 811 0), .int (σ 812 0), .int (σ 813 0), .int (σ 814 0), .int (σ 815 0), .int (σ 816 0), .int (σ 817 0), .int (σ 818 0)])), (ad 802, .inr (5, [.int (σ 590 0), .int (σ 591 0)])), (ad 806, .inr (7, [.ref (ad 700), .ref (ad 701)])), (ad 807, .inr (1, [.ref (ad 100), .ref (ad 101), .ref (ad 102), .int (σ 103 0), .int (σ 104 0)])), (ad 808, .inr (3, [.ref (ad 300), .ref (ad 301), .ref (ad 302), .ref (ad 303), .int (σ 304 0), .int (σ 305 0), .int (σ 306 0)])), (ad 809, .inr (6, [.ref (ad 600), .ref (ad 601), .ref (ad 602), .ref (ad 603), .ref (ad 604), .int (σ 605 0), .int (σ 606 0), .int (σ 607 0), .int (σ 608 0), .int (σ 609 0)])), (ad 800, .inl (ca 2, 6, .inr (.inr (.inr (.inr (fun i => if i < (σ 811 0).toNatClampNeg then some (pa 0 i) else none)))))), (ad 801, .inl (ca 3, 10, .inr (.inr (.inr (.inr (fun i => if i < (σ 812 0).toNatClampNeg then some (pa 1 i) else none)))))), (ad 804, .inl (ca 4, 60, .inr (.inr (.inr (.inr (fun i => if i < (σ 814 0).toNatClampNeg then some (pa 2 i) else none)))))), (ad 805, .inl (ca 5, 20, .inr (.inr (.inr (.inr (fun i => if i < (σ 815 0).toNatClampNeg then some (pa 3 i) else none)))))), (ad 803, .inl (ca 0, 10, .inl (σ 803))), (ad 810, .inl (ca 0, 7, .inl (σ 810))), (ad 700, .inl (ca 0, 100, .inl (σ 700))), (ad 701, .inl (ca 0, 721, .inl (σ 701))), (ad 100, .inl (ca 0, 6, .inl (σ 100))), (ad 101, .inl (ca 0, 6, .inl (σ 101))), (ad 102, .inl (ca 0, 6, .inl (σ 102))), (ad 300, .inl (ca 0, 20, .inl (σ 300))), (ad 301, .inl (ca 0, 20, .inl (σ 301))), (ad 302, .inl (ca 0, 20, .inl (σ 302))), (ad 303, .inl (ca 0, 20, .inl (σ 303))), (ad 600, .inl (ca 6, 6, .inr (.inr (.inr (.inr (fun i => if i < 6 then some (ad (620 + i)) else none)))))), (ad 601, .inl (ca 0, 4, .inl (σ 601))), (ad 602, .inl (ca 0, 4, .inl (σ 602))), (ad 603, .inl (ca 0, 4, .inl (σ 603))), (ad 604, .inl (ca 0, 6, .inl (σ 604))), (ad 620, .inl (ca 0, 16, .inl (σ 620))), (ad 621, .inl (ca 0, 16, .inl (σ 621))), (ad 622, .inl (ca 0, 16, .inl (σ 622))), (ad 623, .inl (ca 0, 16, .inl (σ 623))), (ad 624, .inl (ca 0, 16, .inl (σ 624))), (ad 625, .inl (ca 0, 16, .inl (σ 625)))]
def plG (pa : Nat → Nat → Nat) (σ : St) (n : Nat) : va_W := (List.range n).map (fun i => (pa 0 i, (.inr (4, [.int (σ 400 i), .int (σ 401 i), .int (σ 402 i), .int (σ 403 i), .int (σ 404 i), .int (σ 405 i)]) : va_E)))
def plU (pa : Nat → Nat → Nat) (σ : St) (n : Nat) : va_W := (List.range n).map (fun i => (pa 1 i, (.inr (5, [.int (σ 500 i), .int (σ 501 i)]) : va_E)))
def plC (pa : Nat → Nat → Nat) (σ : St) (n : Nat) : va_W := (List.range n).map (fun i => (pa 2 i, (.inr (0, [.int (σ 0 i), .int (σ 1 i), .int (σ 2 i), .int (σ 3 i), .int (σ 4 i), .int (σ 5 i), .int (σ 6 i), .int (σ 7 i), .int (σ 8 i)]) : va_E)))
def plD (pa : Nat → Nat → Nat) (σ : St) (n : Nat) : va_W := (List.range n).map (fun i => (pa 3 i, (.inr (2, [.int (σ 200 i), .int (σ 201 i), .int (σ 202 i), .int (σ 203 i), .int (σ 204 i), .int (σ 205 i), .int (σ 206 i), .int (σ 207 i)]) : va_E)))
def WC (ca : Nat → ClassId) (h : Nat) (ad : Nat → Nat) (pa : Nat → Nat → Nat) (σ : St) : va_W := fxC ca h ad pa σ ++ (plG pa σ (σ 811 0).toNatClampNeg ++ (plU pa σ (σ 812 0).toNatClampNeg ++ (plC pa σ (σ 814 0).toNatClampNeg ++ plD pa σ (σ 815 0).toNatClampNeg)))
theorem ap_at {X M Y : va_W} {i : Nat} {c : Nat × va_E} (h : M[i]? = some c) : (X ++ (M ++ Y))[X.length + i]? = some c := by
  have hi : i < M.length := (List.getElem?_eq_some_iff.mp h).1
  rw [List.getElem?_append_right (Nat.le_add_right _ _), Nat.add_sub_cancel_left, List.getElem?_append_left hi]
  exact h
theorem ap_set {X M Y : va_W} {i : Nat} {c : Nat × va_E} (h : i < M.length) : (X ++ (M ++ Y)).set (X.length + i) c = X ++ (M.set i c ++ Y) := by
  rw [List.set_append_right _ _ (Nat.le_add_right _ _), Nat.add_sub_cancel_left, List.set_append_left _ _ h]
theorem mp_at {F : Nat → Nat × va_E} {n i : Nat} (h : i < n) : ((List.range n).map F)[i]? = some (F i) := by
  rw [List.getElem?_map, List.getElem?_range h]
  rfl
theorem mp_set {F F' : Nat → Nat × va_E} {n i : Nat} {c : Nat × va_E} (h1 : F' i = c) (h2 : ∀ j, j ≠ i → F' j = F j) : ((List.range n).map F).set i c = (List.range n).map F' := by
  apply List.ext_getElem?
  intro j
  rw [List.getElem?_set]
  by_cases hj : i = j
  · subst hj
    rw [if_pos rfl, List.getElem?_map]
    by_cases hn : i < n
    · rw [if_pos (by rw [List.length_map, List.length_range]; exact hn), List.getElem?_range hn]
      exact congrArg some h1.symm
    · rw [if_neg (by rw [List.length_map, List.length_range]; exact hn), List.getElem?_eq_none (by rw [List.length_range]; omega)]
      rfl
  · rw [if_neg hj, List.getElem?_map, List.getElem?_map]
    by_cases hn : j < n
    · rw [List.getElem?_range hn]
      exact congrArg some (h2 j (fun e => hj e.symm)).symm
    · rw [List.getElem?_eq_none (by rw [List.length_range]; omega)]
      rfl
theorem mp_len {F : Nat → Nat × va_E} {n : Nat} : ((List.range n).map F).length = n := by rw [List.length_map, List.length_range]
theorem put_same {σ : St} {f i : Nat} {x : Int32} : put σ f i x f i = x := by
  show cond (Nat.beq f f) (upd (σ f) i x) (σ f) i = x
  rw [Nat.beq_refl]
  exact pk_us
theorem put_oth {σ : St} {f i j : Nat} {x : Int32} (h : j ≠ i) : put σ f i x f j = σ f j := by
  show cond (Nat.beq f f) (upd (σ f) i x) (σ f) j = σ f j
  rw [Nat.beq_refl]
  exact pk_un h
section WCS
variable {ca : Nat → ClassId} {h : Nat} {ad : Nat → Nat} {pa : Nat → Nat → Nat} {σ : St}
theorem wc_0 : (WC ca h ad pa σ)[0]? = some (h, .inr (8, [.ref (ad 800), .ref (ad 801), .ref (ad 802), .ref (ad 803), .ref (ad 804), .ref (ad 805), .ref (ad 806), .ref (ad 807), .ref (ad 808), .ref (ad 809), .ref (ad 810), .int (σ 811 0), .int (σ 812 0), .int (σ 813 0), .int (σ 814 0), .int (σ 815 0), .int (σ 816 0), .int (σ 817 0), .int (σ 818 0)])) := rfl
theorem wc_1 : (WC ca h ad pa σ)[1]? = some (ad 802, .inr (5, [.int (σ 590 0), .int (σ 591 0)])) := rfl
theorem wc_2 : (WC ca h ad pa σ)[2]? = some (ad 806, .inr (7, [.ref (ad 700), .ref (ad 701)])) := rfl
theorem wc_3 : (WC ca h ad pa σ)[3]? = some (ad 807, .inr (1, [.ref (ad 100), .ref (ad 101), .ref (ad 102), .int (σ 103 0), .int (σ 104 0)])) := rfl
theorem wc_4 : (WC ca h ad pa σ)[4]? = some (ad 808, .inr (3, [.ref (ad 300), .ref (ad 301), .ref (ad 302), .ref (ad 303), .int (σ 304 0), .int (σ 305 0), .int (σ 306 0)])) := rfl
theorem wc_5 : (WC ca h ad pa σ)[5]? = some (ad 809, .inr (6, [.ref (ad 600), .ref (ad 601), .ref (ad 602), .ref (ad 603), .ref (ad 604), .int (σ 605 0), .int (σ 606 0), .int (σ 607 0), .int (σ 608 0), .int (σ 609 0)])) := rfl
theorem wc_6 : (WC ca h ad pa σ)[6]? = some (ad 800, .inl (ca 2, 6, .inr (.inr (.inr (.inr (fun i => if i < (σ 811 0).toNatClampNeg then some (pa 0 i) else none)))))) := rfl
theorem wc_7 : (WC ca h ad pa σ)[7]? = some (ad 801, .inl (ca 3, 10, .inr (.inr (.inr (.inr (fun i => if i < (σ 812 0).toNatClampNeg then some (pa 1 i) else none)))))) := rfl
theorem wc_8 : (WC ca h ad pa σ)[8]? = some (ad 804, .inl (ca 4, 60, .inr (.inr (.inr (.inr (fun i => if i < (σ 814 0).toNatClampNeg then some (pa 2 i) else none)))))) := rfl
theorem wc_9 : (WC ca h ad pa σ)[9]? = some (ad 805, .inl (ca 5, 20, .inr (.inr (.inr (.inr (fun i => if i < (σ 815 0).toNatClampNeg then some (pa 3 i) else none)))))) := rfl
theorem wc_10 : (WC ca h ad pa σ)[10]? = some (ad 803, .inl (ca 0, 10, .inl (σ 803))) := rfl
theorem wc_11 : (WC ca h ad pa σ)[11]? = some (ad 810, .inl (ca 0, 7, .inl (σ 810))) := rfl
theorem wc_12 : (WC ca h ad pa σ)[12]? = some (ad 700, .inl (ca 0, 100, .inl (σ 700))) := rfl
theorem wc_13 : (WC ca h ad pa σ)[13]? = some (ad 701, .inl (ca 0, 721, .inl (σ 701))) := rfl
theorem wc_14 : (WC ca h ad pa σ)[14]? = some (ad 100, .inl (ca 0, 6, .inl (σ 100))) := rfl
theorem wc_15 : (WC ca h ad pa σ)[15]? = some (ad 101, .inl (ca 0, 6, .inl (σ 101))) := rfl
theorem wc_16 : (WC ca h ad pa σ)[16]? = some (ad 102, .inl (ca 0, 6, .inl (σ 102))) := rfl
theorem wc_17 : (WC ca h ad pa σ)[17]? = some (ad 300, .inl (ca 0, 20, .inl (σ 300))) := rfl
theorem wc_18 : (WC ca h ad pa σ)[18]? = some (ad 301, .inl (ca 0, 20, .inl (σ 301))) := rfl
theorem wc_19 : (WC ca h ad pa σ)[19]? = some (ad 302, .inl (ca 0, 20, .inl (σ 302))) := rfl
theorem wc_20 : (WC ca h ad pa σ)[20]? = some (ad 303, .inl (ca 0, 20, .inl (σ 303))) := rfl
theorem wc_21 : (WC ca h ad pa σ)[21]? = some (ad 600, .inl (ca 6, 6, .inr (.inr (.inr (.inr (fun i => if i < 6 then some (ad (620 + i)) else none)))))) := rfl
theorem wc_22 : (WC ca h ad pa σ)[22]? = some (ad 601, .inl (ca 0, 4, .inl (σ 601))) := rfl
theorem wc_23 : (WC ca h ad pa σ)[23]? = some (ad 602, .inl (ca 0, 4, .inl (σ 602))) := rfl
theorem wc_24 : (WC ca h ad pa σ)[24]? = some (ad 603, .inl (ca 0, 4, .inl (σ 603))) := rfl
theorem wc_25 : (WC ca h ad pa σ)[25]? = some (ad 604, .inl (ca 0, 6, .inl (σ 604))) := rfl
theorem wc_26 : (WC ca h ad pa σ)[26]? = some (ad 620, .inl (ca 0, 16, .inl (σ 620))) := rfl
theorem wc_27 : (WC ca h ad pa σ)[27]? = some (ad 621, .inl (ca 0, 16, .inl (σ 621))) := rfl
theorem wc_28 : (WC ca h ad pa σ)[28]? = some (ad 622, .inl (ca 0, 16, .inl (σ 622))) := rfl
theorem wc_29 : (WC ca h ad pa σ)[29]? = some (ad 623, .inl (ca 0, 16, .inl (σ 623))) := rfl
theorem wc_30 : (WC ca h ad pa σ)[30]? = some (ad 624, .inl (ca 0, 16, .inl (σ 624))) := rfl
theorem wc_31 : (WC ca h ad pa σ)[31]? = some (ad 625, .inl (ca 0, 16, .inl (σ 625))) := rfl
theorem wc_p813 {x : Int32} : (WC ca h ad pa σ).set 0 (h, .inr (8, ([.ref (ad 800), .ref (ad 801), .ref (ad 802), .ref (ad 803), .ref (ad 804), .ref (ad 805), .ref (ad 806), .ref (ad 807), .ref (ad 808), .ref (ad 809), .ref (ad 810), .int (σ 811 0), .int (σ 812 0), .int (σ 813 0), .int (σ 814 0), .int (σ 815 0), .int (σ 816 0), .int (σ 817 0), .int (σ 818 0)] : List Value).set 13 (.int x))) = WC ca h ad pa (put σ 813 0 x) := rfl
theorem wc_p816 {x : Int32} : (WC ca h ad pa σ).set 0 (h, .inr (8, ([.ref (ad 800), .ref (ad 801), .ref (ad 802), .ref (ad 803), .ref (ad 804), .ref (ad 805), .ref (ad 806), .ref (ad 807), .ref (ad 808), .ref (ad 809), .ref (ad 810), .int (σ 811 0), .int (σ 812 0), .int (σ 813 0), .int (σ 814 0), .int (σ 815 0), .int (σ 816 0), .int (σ 817 0), .int (σ 818 0)] : List Value).set 16 (.int x))) = WC ca h ad pa (put σ 816 0 x) := rfl
theorem wc_p817 {x : Int32} : (WC ca h ad pa σ).set 0 (h, .inr (8, ([.ref (ad 800), .ref (ad 801), .ref (ad 802), .ref (ad 803), .ref (ad 804), .ref (ad 805), .ref (ad 806), .ref (ad 807), .ref (ad 808), .ref (ad 809), .ref (ad 810), .int (σ 811 0), .int (σ 812 0), .int (σ 813 0), .int (σ 814 0), .int (σ 815 0), .int (σ 816 0), .int (σ 817 0), .int (σ 818 0)] : List Value).set 17 (.int x))) = WC ca h ad pa (put σ 817 0 x) := rfl
theorem wc_p818 {x : Int32} : (WC ca h ad pa σ).set 0 (h, .inr (8, ([.ref (ad 800), .ref (ad 801), .ref (ad 802), .ref (ad 803), .ref (ad 804), .ref (ad 805), .ref (ad 806), .ref (ad 807), .ref (ad 808), .ref (ad 809), .ref (ad 810), .int (σ 811 0), .int (σ 812 0), .int (σ 813 0), .int (σ 814 0), .int (σ 815 0), .int (σ 816 0), .int (σ 817 0), .int (σ 818 0)] : List Value).set 18 (.int x))) = WC ca h ad pa (put σ 818 0 x) := rfl
theorem wc_p590 {x : Int32} : (WC ca h ad pa σ).set 1 (ad 802, .inr (5, ([.int (σ 590 0), .int (σ 591 0)] : List Value).set 0 (.int x))) = WC ca h ad pa (put σ 590 0 x) := rfl
theorem wc_p591 {x : Int32} : (WC ca h ad pa σ).set 1 (ad 802, .inr (5, ([.int (σ 590 0), .int (σ 591 0)] : List Value).set 1 (.int x))) = WC ca h ad pa (put σ 591 0 x) := rfl
theorem wc_p103 {x : Int32} : (WC ca h ad pa σ).set 3 (ad 807, .inr (1, ([.ref (ad 100), .ref (ad 101), .ref (ad 102), .int (σ 103 0), .int (σ 104 0)] : List Value).set 3 (.int x))) = WC ca h ad pa (put σ 103 0 x) := rfl
theorem wc_p104 {x : Int32} : (WC ca h ad pa σ).set 3 (ad 807, .inr (1, ([.ref (ad 100), .ref (ad 101), .ref (ad 102), .int (σ 103 0), .int (σ 104 0)] : List Value).set 4 (.int x))) = WC ca h ad pa (put σ 104 0 x) := rfl
theorem wc_p304 {x : Int32} : (WC ca h ad pa σ).set 4 (ad 808, .inr (3, ([.ref (ad 300), .ref (ad 301), .ref (ad 302), .ref (ad 303), .int (σ 304 0), .int (σ 305 0), .int (σ 306 0)] : List Value).set 4 (.int x))) = WC ca h ad pa (put σ 304 0 x) := rfl
theorem wc_p305 {x : Int32} : (WC ca h ad pa σ).set 4 (ad 808, .inr (3, ([.ref (ad 300), .ref (ad 301), .ref (ad 302), .ref (ad 303), .int (σ 304 0), .int (σ 305 0), .int (σ 306 0)] : List Value).set 5 (.int x))) = WC ca h ad pa (put σ 305 0 x) := rfl
theorem wc_p306 {x : Int32} : (WC ca h ad pa σ).set 4 (ad 808, .inr (3, ([.ref (ad 300), .ref (ad 301), .ref (ad 302), .ref (ad 303), .int (σ 304 0), .int (σ 305 0), .int (σ 306 0)] : List Value).set 6 (.int x))) = WC ca h ad pa (put σ 306 0 x) := rfl
theorem wc_p605 {x : Int32} : (WC ca h ad pa σ).set 5 (ad 809, .inr (6, ([.ref (ad 600), .ref (ad 601), .ref (ad 602), .ref (ad 603), .ref (ad 604), .int (σ 605 0), .int (σ 606 0), .int (σ 607 0), .int (σ 608 0), .int (σ 609 0)] : List Value).set 5 (.int x))) = WC ca h ad pa (put σ 605 0 x) := rfl
theorem wc_p606 {x : Int32} : (WC ca h ad pa σ).set 5 (ad 809, .inr (6, ([.ref (ad 600), .ref (ad 601), .ref (ad 602), .ref (ad 603), .ref (ad 604), .int (σ 605 0), .int (σ 606 0), .int (σ 607 0), .int (σ 608 0), .int (σ 609 0)] : List Value).set 6 (.int x))) = WC ca h ad pa (put σ 606 0 x) := rfl
theorem wc_p607 {x : Int32} : (WC ca h ad pa σ).set 5 (ad 809, .inr (6, ([.ref (ad 600), .ref (ad 601), .ref (ad 602), .ref (ad 603), .ref (ad 604), .int (σ 605 0), .int (σ 606 0), .int (σ 607 0), .int (σ 608 0), .int (σ 609 0)] : List Value).set 7 (.int x))) = WC ca h ad pa (put σ 607 0 x) := rfl
theorem wc_p608 {x : Int32} : (WC ca h ad pa σ).set 5 (ad 809, .inr (6, ([.ref (ad 600), .ref (ad 601), .ref (ad 602), .ref (ad 603), .ref (ad 604), .int (σ 605 0), .int (σ 606 0), .int (σ 607 0), .int (σ 608 0), .int (σ 609 0)] : List Value).set 8 (.int x))) = WC ca h ad pa (put σ 608 0 x) := rfl
theorem wc_p609 {x : Int32} : (WC ca h ad pa σ).set 5 (ad 809, .inr (6, ([.ref (ad 600), .ref (ad 601), .ref (ad 602), .ref (ad 603), .ref (ad 604), .int (σ 605 0), .int (σ 606 0), .int (σ 607 0), .int (σ 608 0), .int (σ 609 0)] : List Value).set 9 (.int x))) = WC ca h ad pa (put σ 609 0 x) := rfl
theorem wc_s803 {i : Nat} {x : Int32} : (WC ca h ad pa σ).set 10 (ad 803, .inl (ca 0, 10, .inl (upd (σ 803) i x))) = WC ca h ad pa (put σ 803 i x) := rfl
theorem wc_s810 {i : Nat} {x : Int32} : (WC ca h ad pa σ).set 11 (ad 810, .inl (ca 0, 7, .inl (upd (σ 810) i x))) = WC ca h ad pa (put σ 810 i x) := rfl
theorem wc_s700 {i : Nat} {x : Int32} : (WC ca h ad pa σ).set 12 (ad 700, .inl (ca 0, 100, .inl (upd (σ 700) i x))) = WC ca h ad pa (put σ 700 i x) := rfl
theorem wc_s701 {i : Nat} {x : Int32} : (WC ca h ad pa σ).set 13 (ad 701, .inl (ca 0, 721, .inl (upd (σ 701) i x))) = WC ca h ad pa (put σ 701 i x) := rfl
theorem wc_s100 {i : Nat} {x : Int32} : (WC ca h ad pa σ).set 14 (ad 100, .inl (ca 0, 6, .inl (upd (σ 100) i x))) = WC ca h ad pa (put σ 100 i x) := rfl
theorem wc_s101 {i : Nat} {x : Int32} : (WC ca h ad pa σ).set 15 (ad 101, .inl (ca 0, 6, .inl (upd (σ 101) i x))) = WC ca h ad pa (put σ 101 i x) := rfl
theorem wc_s102 {i : Nat} {x : Int32} : (WC ca h ad pa σ).set 16 (ad 102, .inl (ca 0, 6, .inl (upd (σ 102) i x))) = WC ca h ad pa (put σ 102 i x) := rfl
theorem wc_s300 {i : Nat} {x : Int32} : (WC ca h ad pa σ).set 17 (ad 300, .inl (ca 0, 20, .inl (upd (σ 300) i x))) = WC ca h ad pa (put σ 300 i x) := rfl
theorem wc_s301 {i : Nat} {x : Int32} : (WC ca h ad pa σ).set 18 (ad 301, .inl (ca 0, 20, .inl (upd (σ 301) i x))) = WC ca h ad pa (put σ 301 i x) := rfl
theorem wc_s302 {i : Nat} {x : Int32} : (WC ca h ad pa σ).set 19 (ad 302, .inl (ca 0, 20, .inl (upd (σ 302) i x))) = WC ca h ad pa (put σ 302 i x) := rfl
theorem wc_s303 {i : Nat} {x : Int32} : (WC ca h ad pa σ).set 20 (ad 303, .inl (ca 0, 20, .inl (upd (σ 303) i x))) = WC ca h ad pa (put σ 303 i x) := rfl
theorem wc_s601 {i : Nat} {x : Int32} : (WC ca h ad pa σ).set 22 (ad 601, .inl (ca 0, 4, .inl (upd (σ 601) i x))) = WC ca h ad pa (put σ 601 i x) := rfl
theorem wc_s602 {i : Nat} {x : Int32} : (WC ca h ad pa σ).set 23 (ad 602, .inl (ca 0, 4, .inl (upd (σ 602) i x))) = WC ca h ad pa (put σ 602 i x) := rfl
theorem wc_s603 {i : Nat} {x : Int32} : (WC ca h ad pa σ).set 24 (ad 603, .inl (ca 0, 4, .inl (upd (σ 603) i x))) = WC ca h ad pa (put σ 603 i x) := rfl
theorem wc_s604 {i : Nat} {x : Int32} : (WC ca h ad pa σ).set 25 (ad 604, .inl (ca 0, 6, .inl (upd (σ 604) i x))) = WC ca h ad pa (put σ 604 i x) := rfl
theorem wc_s620 {i : Nat} {x : Int32} : (WC ca h ad pa σ).set 26 (ad 620, .inl (ca 0, 16, .inl (upd (σ 620) i x))) = WC ca h ad pa (put σ 620 i x) := rfl
theorem wc_s621 {i : Nat} {x : Int32} : (WC ca h ad pa σ).set 27 (ad 621, .inl (ca 0, 16, .inl (upd (σ 621) i x))) = WC ca h ad pa (put σ 621 i x) := rfl
theorem wc_s622 {i : Nat} {x : Int32} : (WC ca h ad pa σ).set 28 (ad 622, .inl (ca 0, 16, .inl (upd (σ 622) i x))) = WC ca h ad pa (put σ 622 i x) := rfl
theorem wc_s623 {i : Nat} {x : Int32} : (WC ca h ad pa σ).set 29 (ad 623, .inl (ca 0, 16, .inl (upd (σ 623) i x))) = WC ca h ad pa (put σ 623 i x) := rfl
theorem wc_s624 {i : Nat} {x : Int32} : (WC ca h ad pa σ).set 30 (ad 624, .inl (ca 0, 16, .inl (upd (σ 624) i x))) = WC ca h ad pa (put σ 624 i x) := rfl
theorem wc_s625 {i : Nat} {x : Int32} : (WC ca h ad pa σ).set 31 (ad 625, .inl (ca 0, 16, .inl (upd (σ 625) i x))) = WC ca h ad pa (put σ 625 i x) := rfl
end WCS
def pcG (ca : Nat → ClassId) (h : Nat) (ad : Nat → Nat) (pa : Nat → Nat → Nat) (σ : St) (i : Nat) : Nat := (fxC ca h ad pa σ).length + i
section WCG
variable {ca : Nat → ClassId} {h : Nat} {ad : Nat → Nat} {pa : Nat → Nat → Nat} {σ : St}
theorem wc_asG : WC ca h ad pa σ = (fxC ca h ad pa σ) ++ (plG pa σ (σ 811 0).toNatClampNeg ++ (plU pa σ (σ 812 0).toNatClampNeg ++ (plC pa σ (σ 814 0).toNatClampNeg ++ plD pa σ (σ 815 0).toNatClampNeg))) := by
  unfold WC
  simp only [List.append_assoc, List.append_nil]
theorem wc_aG {i : Nat} (hi : i < (σ 811 0).toNatClampNeg) : (WC ca h ad pa σ)[pcG ca h ad pa σ i]? = some (pa 0 i, .inr (4, [.int (σ 400 i), .int (σ 401 i), .int (σ 402 i), .int (σ 403 i), .int (σ 404 i), .int (σ 405 i)])) := by
  rw [wc_asG]
  exact ap_at (mp_at hi)
theorem wc_sG0 {i : Nat} {x : Int32} (hi : i < (σ 811 0).toNatClampNeg) : (WC ca h ad pa σ).set (pcG ca h ad pa σ i) (pa 0 i, .inr (4, ([.int (σ 400 i), .int (σ 401 i), .int (σ 402 i), .int (σ 403 i), .int (σ 404 i), .int (σ 405 i)] : List Value).set 0 (.int x))) = WC ca h ad pa (put σ 400 i x) := by
  rw [wc_asG, wc_asG]
  refine (ap_set (by rw [show (plG pa σ (σ 811 0).toNatClampNeg).length = (σ 811 0).toNatClampNeg from mp_len]; exact hi)).trans ?_
  refine congrArg (fun z => (fxC ca h ad pa σ) ++ (z ++ (plU pa σ (σ 812 0).toNatClampNeg ++ (plC pa σ (σ 814 0).toNatClampNeg ++ plD pa σ (σ 815 0).toNatClampNeg)))) (mp_set (F' := fun i_1 => (pa 0 i_1, (.inr (4, [.int (put σ 400 i x 400 i_1), .int (put σ 400 i x 401 i_1), .int (put σ 400 i x 402 i_1), .int (put σ 400 i x 403 i_1), .int (put σ 400 i x 404 i_1), .int (put σ 400 i x 405 i_1)]) : va_E))) ?_ ?_)
  · simp only [put_same]
    rfl
  · intro j hj
    simp only [put_oth hj]
    rfl
theorem wc_sG1 {i : Nat} {x : Int32} (hi : i < (σ 811 0).toNatClampNeg) : (WC ca h ad pa σ).set (pcG ca h ad pa σ i) (pa 0 i, .inr (4, ([.int (σ 400 i), .int (σ 401 i), .int (σ 402 i), .int (σ 403 i), .int (σ 404 i), .int (σ 405 i)] : List Value).set 1 (.int x))) = WC ca h ad pa (put σ 401 i x) := by
  rw [wc_asG, wc_asG]
  refine (ap_set (by rw [show (plG pa σ (σ 811 0).toNatClampNeg).length = (σ 811 0).toNatClampNeg from mp_len]; exact hi)).trans ?_
  refine congrArg (fun z => (fxC ca h ad pa σ) ++ (z ++ (plU pa σ (σ 812 0).toNatClampNeg ++ (plC pa σ (σ 814 0).toNatClampNeg ++ plD pa σ (σ 815 0).toNatClampNeg)))) (mp_set (F' := fun i_1 => (pa 0 i_1, (.inr (4, [.int (put σ 401 i x 400 i_1), .int (put σ 401 i x 401 i_1), .int (put σ 401 i x 402 i_1), .int (put σ 401 i x 403 i_1), .int (put σ 401 i x 404 i_1), .int (put σ 401 i x 405 i_1)]) : va_E))) ?_ ?_)
  · simp only [put_same]
    rfl
  · intro j hj
    simp only [put_oth hj]
    rfl
theorem wc_sG2 {i : Nat} {x : Int32} (hi : i < (σ 811 0).toNatClampNeg) : (WC ca h ad pa σ).set (pcG ca h ad pa σ i) (pa 0 i, .inr (4, ([.int (σ 400 i), .int (σ 401 i), .int (σ 402 i), .int (σ 403 i), .int (σ 404 i), .int (σ 405 i)] : List Value).set 2 (.int x))) = WC ca h ad pa (put σ 402 i x) := by
  rw [wc_asG, wc_asG]
  refine (ap_set (by rw [show (plG pa σ (σ 811 0).toNatClampNeg).length = (σ 811 0).toNatClampNeg from mp_len]; exact hi)).trans ?_
  refine congrArg (fun z => (fxC ca h ad pa σ) ++ (z ++ (plU pa σ (σ 812 0).toNatClampNeg ++ (plC pa σ (σ 814 0).toNatClampNeg ++ plD pa σ (σ 815 0).toNatClampNeg)))) (mp_set (F' := fun i_1 => (pa 0 i_1, (.inr (4, [.int (put σ 402 i x 400 i_1), .int (put σ 402 i x 401 i_1), .int (put σ 402 i x 402 i_1), .int (put σ 402 i x 403 i_1), .int (put σ 402 i x 404 i_1), .int (put σ 402 i x 405 i_1)]) : va_E))) ?_ ?_)
  · simp only [put_same]
    rfl
  · intro j hj
    simp only [put_oth hj]
    rfl
theorem wc_sG3 {i : Nat} {x : Int32} (hi : i < (σ 811 0).toNatClampNeg) : (WC ca h ad pa σ).set (pcG ca h ad pa σ i) (pa 0 i, .inr (4, ([.int (σ 400 i), .int (σ 401 i), .int (σ 402 i), .int (σ 403 i), .int (σ 404 i), .int (σ 405 i)] : List Value).set 3 (.int x))) = WC ca h ad pa (put σ 403 i x) := by
  rw [wc_asG, wc_asG]
  refine (ap_set (by rw [show (plG pa σ (σ 811 0).toNatClampNeg).length = (σ 811 0).toNatClampNeg from mp_len]; exact hi)).trans ?_
  refine congrArg (fun z => (fxC ca h ad pa σ) ++ (z ++ (plU pa σ (σ 812 0).toNatClampNeg ++ (plC pa σ (σ 814 0).toNatClampNeg ++ plD pa σ (σ 815 0).toNatClampNeg)))) (mp_set (F' := fun i_1 => (pa 0 i_1, (.inr (4, [.int (put σ 403 i x 400 i_1), .int (put σ 403 i x 401 i_1), .int (put σ 403 i x 402 i_1), .int (put σ 403 i x 403 i_1), .int (put σ 403 i x 404 i_1), .int (put σ 403 i x 405 i_1)]) : va_E))) ?_ ?_)
  · simp only [put_same]
    rfl
  · intro j hj
    simp only [put_oth hj]
    rfl
theorem wc_sG4 {i : Nat} {x : Int32} (hi : i < (σ 811 0).toNatClampNeg) : (WC ca h ad pa σ).set (pcG ca h ad pa σ i) (pa 0 i, .inr (4, ([.int (σ 400 i), .int (σ 401 i), .int (σ 402 i), .int (σ 403 i), .int (σ 404 i), .int (σ 405 i)] : List Value).set 4 (.int x))) = WC ca h ad pa (put σ 404 i x) := by
  rw [wc_asG, wc_asG]
  refine (ap_set (by rw [show (plG pa σ (σ 811 0).toNatClampNeg).length = (σ 811 0).toNatClampNeg from mp_len]; exact hi)).trans ?_
  refine congrArg (fun z => (fxC ca h ad pa σ) ++ (z ++ (plU pa σ (σ 812 0).toNatClampNeg ++ (plC pa σ (σ 814 0).toNatClampNeg ++ plD pa σ (σ 815 0).toNatClampNeg)))) (mp_set (F' := fun i_1 => (pa 0 i_1, (.inr (4, [.int (put σ 404 i x 400 i_1), .int (put σ 404 i x 401 i_1), .int (put σ 404 i x 402 i_1), .int (put σ 404 i x 403 i_1), .int (put σ 404 i x 404 i_1), .int (put σ 404 i x 405 i_1)]) : va_E))) ?_ ?_)
  · simp only [put_same]
    rfl
  · intro j hj
    simp only [put_oth hj]
    rfl
theorem wc_sG5 {i : Nat} {x : Int32} (hi : i < (σ 811 0).toNatClampNeg) : (WC ca h ad pa σ).set (pcG ca h ad pa σ i) (pa 0 i, .inr (4, ([.int (σ 400 i), .int (σ 401 i), .int (σ 402 i), .int (σ 403 i), .int (σ 404 i), .int (σ 405 i)] : List Value).set 5 (.int x))) = WC ca h ad pa (put σ 405 i x) := by
  rw [wc_asG, wc_asG]
  refine (ap_set (by rw [show (plG pa σ (σ 811 0).toNatClampNeg).length = (σ 811 0).toNatClampNeg from mp_len]; exact hi)).trans ?_
  refine congrArg (fun z => (fxC ca h ad pa σ) ++ (z ++ (plU pa σ (σ 812 0).toNatClampNeg ++ (plC pa σ (σ 814 0).toNatClampNeg ++ plD pa σ (σ 815 0).toNatClampNeg)))) (mp_set (F' := fun i_1 => (pa 0 i_1, (.inr (4, [.int (put σ 405 i x 400 i_1), .int (put σ 405 i x 401 i_1), .int (put σ 405 i x 402 i_1), .int (put σ 405 i x 403 i_1), .int (put σ 405 i x 404 i_1), .int (put σ 405 i x 405 i_1)]) : va_E))) ?_ ?_)
  · simp only [put_same]
    rfl
  · intro j hj
    simp only [put_oth hj]
    rfl
end WCG
def pcU (ca : Nat → ClassId) (h : Nat) (ad : Nat → Nat) (pa : Nat → Nat → Nat) (σ : St) (i : Nat) : Nat := (fxC ca h ad pa σ ++ plG pa σ (σ 811 0).toNatClampNeg).length + i
section WCU
variable {ca : Nat → ClassId} {h : Nat} {ad : Nat → Nat} {pa : Nat → Nat → Nat} {σ : St}
theorem wc_asU : WC ca h ad pa σ = (fxC ca h ad pa σ ++ plG pa σ (σ 811 0).toNatClampNeg) ++ (plU pa σ (σ 812 0).toNatClampNeg ++ (plC pa σ (σ 814 0).toNatClampNeg ++ plD pa σ (σ 815 0).toNatClampNeg)) := by
  unfold WC
  simp only [List.append_assoc, List.append_nil]
theorem wc_aU {i : Nat} (hi : i < (σ 812 0).toNatClampNeg) : (WC ca h ad pa σ)[pcU ca h ad pa σ i]? = some (pa 1 i, .inr (5, [.int (σ 500 i), .int (σ 501 i)])) := by
  rw [wc_asU]
  exact ap_at (mp_at hi)
theorem wc_sU0 {i : Nat} {x : Int32} (hi : i < (σ 812 0).toNatClampNeg) : (WC ca h ad pa σ).set (pcU ca h ad pa σ i) (pa 1 i, .inr (5, ([.int (σ 500 i), .int (σ 501 i)] : List Value).set 0 (.int x))) = WC ca h ad pa (put σ 500 i x) := by
  rw [wc_asU, wc_asU]
  refine (ap_set (by rw [show (plU pa σ (σ 812 0).toNatClampNeg).length = (σ 812 0).toNatClampNeg from mp_len]; exact hi)).trans ?_
  refine congrArg (fun z => (fxC ca h ad pa σ ++ plG pa σ (σ 811 0).toNatClampNeg) ++ (z ++ (plC pa σ (σ 814 0).toNatClampNeg ++ plD pa σ (σ 815 0).toNatClampNeg))) (mp_set (F' := fun i_1 => (pa 1 i_1, (.inr (5, [.int (put σ 500 i x 500 i_1), .int (put σ 500 i x 501 i_1)]) : va_E))) ?_ ?_)
  · simp only [put_same]
    rfl
  · intro j hj
    simp only [put_oth hj]
    rfl
theorem wc_sU1 {i : Nat} {x : Int32} (hi : i < (σ 812 0).toNatClampNeg) : (WC ca h ad pa σ).set (pcU ca h ad pa σ i) (pa 1 i, .inr (5, ([.int (σ 500 i), .int (σ 501 i)] : List Value).set 1 (.int x))) = WC ca h ad pa (put σ 501 i x) := by
  rw [wc_asU, wc_asU]
  refine (ap_set (by rw [show (plU pa σ (σ 812 0).toNatClampNeg).length = (σ 812 0).toNatClampNeg from mp_len]; exact hi)).trans ?_
  refine congrArg (fun z => (fxC ca h ad pa σ ++ plG pa σ (σ 811 0).toNatClampNeg) ++ (z ++ (plC pa σ (σ 814 0).toNatClampNeg ++ plD pa σ (σ 815 0).toNatClampNeg))) (mp_set (F' := fun i_1 => (pa 1 i_1, (.inr (5, [.int (put σ 501 i x 500 i_1), .int (put σ 501 i x 501 i_1)]) : va_E))) ?_ ?_)
  · simp only [put_same]
    rfl
  · intro j hj
    simp only [put_oth hj]
    rfl
end WCU
def pcC (ca : Nat → ClassId) (h : Nat) (ad : Nat → Nat) (pa : Nat → Nat → Nat) (σ : St) (i : Nat) : Nat := (fxC ca h ad pa σ ++ plG pa σ (σ 811 0).toNatClampNeg ++ plU pa σ (σ 812 0).toNatClampNeg).length + i
section WCC
variable {ca : Nat → ClassId} {h : Nat} {ad : Nat → Nat} {pa : Nat → Nat → Nat} {σ : St}
theorem wc_asC : WC ca h ad pa σ = (fxC ca h ad pa σ ++ plG pa σ (σ 811 0).toNatClampNeg ++ plU pa σ (σ 812 0).toNatClampNeg) ++ (plC pa σ (σ 814 0).toNatClampNeg ++ (plD pa σ (σ 815 0).toNatClampNeg)) := by
  unfold WC
  simp only [List.append_assoc, List.append_nil]
theorem wc_aC {i : Nat} (hi : i < (σ 814 0).toNatClampNeg) : (WC ca h ad pa σ)[pcC ca h ad pa σ i]? = some (pa 2 i, .inr (0, [.int (σ 0 i), .int (σ 1 i), .int (σ 2 i), .int (σ 3 i), .int (σ 4 i), .int (σ 5 i), .int (σ 6 i), .int (σ 7 i), .int (σ 8 i)])) := by
  rw [wc_asC]
  exact ap_at (mp_at hi)
theorem wc_sC0 {i : Nat} {x : Int32} (hi : i < (σ 814 0).toNatClampNeg) : (WC ca h ad pa σ).set (pcC ca h ad pa σ i) (pa 2 i, .inr (0, ([.int (σ 0 i), .int (σ 1 i), .int (σ 2 i), .int (σ 3 i), .int (σ 4 i), .int (σ 5 i), .int (σ 6 i), .int (σ 7 i), .int (σ 8 i)] : List Value).set 0 (.int x))) = WC ca h ad pa (put σ 0 i x) := by
  rw [wc_asC, wc_asC]
  refine (ap_set (by rw [show (plC pa σ (σ 814 0).toNatClampNeg).length = (σ 814 0).toNatClampNeg from mp_len]; exact hi)).trans ?_
  refine congrArg (fun z => (fxC ca h ad pa σ ++ plG pa σ (σ 811 0).toNatClampNeg ++ plU pa σ (σ 812 0).toNatClampNeg) ++ (z ++ (plD pa σ (σ 815 0).toNatClampNeg))) (mp_set (F' := fun i_1 => (pa 2 i_1, (.inr (0, [.int (put σ 0 i x 0 i_1), .int (put σ 0 i x 1 i_1), .int (put σ 0 i x 2 i_1), .int (put σ 0 i x 3 i_1), .int (put σ 0 i x 4 i_1), .int (put σ 0 i x 5 i_1), .int (put σ 0 i x 6 i_1), .int (put σ 0 i x 7 i_1), .int (put σ 0 i x 8 i_1)]) : va_E))) ?_ ?_)
  · simp only [put_same]
    rfl
  · intro j hj
    simp only [put_oth hj]
    rfl
theorem wc_sC1 {i : Nat} {x : Int32} (hi : i < (σ 814 0).toNatClampNeg) : (WC ca h ad pa σ).set (pcC ca h ad pa σ i) (pa 2 i, .inr (0, ([.int (σ 0 i), .int (σ 1 i), .int (σ 2 i), .int (σ 3 i), .int (σ 4 i), .int (σ 5 i), .int (σ 6 i), .int (σ 7 i), .int (σ 8 i)] : List Value).set 1 (.int x))) = WC ca h ad pa (put σ 1 i x) := by
  rw [wc_asC, wc_asC]
  refine (ap_set (by rw [show (plC pa σ (σ 814 0).toNatClampNeg).length = (σ 814 0).toNatClampNeg from mp_len]; exact hi)).trans ?_
  refine congrArg (fun z => (fxC ca h ad pa σ ++ plG pa σ (σ 811 0).toNatClampNeg ++ plU pa σ (σ 812 0).toNatClampNeg) ++ (z ++ (plD pa σ (σ 815 0).toNatClampNeg))) (mp_set (F' := fun i_1 => (pa 2 i_1, (.inr (0, [.int (put σ 1 i x 0 i_1), .int (put σ 1 i x 1 i_1), .int (put σ 1 i x 2 i_1), .int (put σ 1 i x 3 i_1), .int (put σ 1 i x 4 i_1), .int (put σ 1 i x 5 i_1), .int (put σ 1 i x 6 i_1), .int (put σ 1 i x 7 i_1), .int (put σ 1 i x 8 i_1)]) : va_E))) ?_ ?_)
  · simp only [put_same]
    rfl
  · intro j hj
    simp only [put_oth hj]
    rfl
theorem wc_sC2 {i : Nat} {x : Int32} (hi : i < (σ 814 0).toNatClampNeg) : (WC ca h ad pa σ).set (pcC ca h ad pa σ i) (pa 2 i, .inr (0, ([.int (σ 0 i), .int (σ 1 i), .int (σ 2 i), .int (σ 3 i), .int (σ 4 i), .int (σ 5 i), .int (σ 6 i), .int (σ 7 i), .int (σ 8 i)] : List Value).set 2 (.int x))) = WC ca h ad pa (put σ 2 i x) := by
  rw [wc_asC, wc_asC]
  refine (ap_set (by rw [show (plC pa σ (σ 814 0).toNatClampNeg).length = (σ 814 0).toNatClampNeg from mp_len]; exact hi)).trans ?_
  refine congrArg (fun z => (fxC ca h ad pa σ ++ plG pa σ (σ 811 0).toNatClampNeg ++ plU pa σ (σ 812 0).toNatClampNeg) ++ (z ++ (plD pa σ (σ 815 0).toNatClampNeg))) (mp_set (F' := fun i_1 => (pa 2 i_1, (.inr (0, [.int (put σ 2 i x 0 i_1), .int (put σ 2 i x 1 i_1), .int (put σ 2 i x 2 i_1), .int (put σ 2 i x 3 i_1), .int (put σ 2 i x 4 i_1), .int (put σ 2 i x 5 i_1), .int (put σ 2 i x 6 i_1), .int (put σ 2 i x 7 i_1), .int (put σ 2 i x 8 i_1)]) : va_E))) ?_ ?_)
  · simp only [put_same]
    rfl
  · intro j hj
    simp only [put_oth hj]
    rfl
theorem wc_sC3 {i : Nat} {x : Int32} (hi : i < (σ 814 0).toNatClampNeg) : (WC ca h ad pa σ).set (pcC ca h ad pa σ i) (pa 2 i, .inr (0, ([.int (σ 0 i), .int (σ 1 i), .int (σ 2 i), .int (σ 3 i), .int (σ 4 i), .int (σ 5 i), .int (σ 6 i), .int (σ 7 i), .int (σ 8 i)] : List Value).set 3 (.int x))) = WC ca h ad pa (put σ 3 i x) := by
  rw [wc_asC, wc_asC]
  refine (ap_set (by rw [show (plC pa σ (σ 814 0).toNatClampNeg).length = (σ 814 0).toNatClampNeg from mp_len]; exact hi)).trans ?_
  refine congrArg (fun z => (fxC ca h ad pa σ ++ plG pa σ (σ 811 0).toNatClampNeg ++ plU pa σ (σ 812 0).toNatClampNeg) ++ (z ++ (plD pa σ (σ 815 0).toNatClampNeg))) (mp_set (F' := fun i_1 => (pa 2 i_1, (.inr (0, [.int (put σ 3 i x 0 i_1), .int (put σ 3 i x 1 i_1), .int (put σ 3 i x 2 i_1), .int (put σ 3 i x 3 i_1), .int (put σ 3 i x 4 i_1), .int (put σ 3 i x 5 i_1), .int (put σ 3 i x 6 i_1), .int (put σ 3 i x 7 i_1), .int (put σ 3 i x 8 i_1)]) : va_E))) ?_ ?_)
  · simp only [put_same]
    rfl
  · intro j hj
    simp only [put_oth hj]
    rfl
theorem wc_sC4 {i : Nat} {x : Int32} (hi : i < (σ 814 0).toNatClampNeg) : (WC ca h ad pa σ).set (pcC ca h ad pa σ i) (pa 2 i, .inr (0, ([.int (σ 0 i), .int (σ 1 i), .int (σ 2 i), .int (σ 3 i), .int (σ 4 i), .int (σ 5 i), .int (σ 6 i), .int (σ 7 i), .int (σ 8 i)] : List Value).set 4 (.int x))) = WC ca h ad pa (put σ 4 i x) := by
  rw [wc_asC, wc_asC]
  refine (ap_set (by rw [show (plC pa σ (σ 814 0).toNatClampNeg).length = (σ 814 0).toNatClampNeg from mp_len]; exact hi)).trans ?_
  refine congrArg (fun z => (fxC ca h ad pa σ ++ plG pa σ (σ 811 0).toNatClampNeg ++ plU pa σ (σ 812 0).toNatClampNeg) ++ (z ++ (plD pa σ (σ 815 0).toNatClampNeg))) (mp_set (F' := fun i_1 => (pa 2 i_1, (.inr (0, [.int (put σ 4 i x 0 i_1), .int (put σ 4 i x 1 i_1), .int (put σ 4 i x 2 i_1), .int (put σ 4 i x 3 i_1), .int (put σ 4 i x 4 i_1), .int (put σ 4 i x 5 i_1), .int (put σ 4 i x 6 i_1), .int (put σ 4 i x 7 i_1), .int (put σ 4 i x 8 i_1)]) : va_E))) ?_ ?_)
  · simp only [put_same]
    rfl
  · intro j hj
    simp only [put_oth hj]
    rfl
theorem wc_sC5 {i : Nat} {x : Int32} (hi : i < (σ 814 0).toNatClampNeg) : (WC ca h ad pa σ).set (pcC ca h ad pa σ i) (pa 2 i, .inr (0, ([.int (σ 0 i), .int (σ 1 i), .int (σ 2 i), .int (σ 3 i), .int (σ 4 i), .int (σ 5 i), .int (σ 6 i), .int (σ 7 i), .int (σ 8 i)] : List Value).set 5 (.int x))) = WC ca h ad pa (put σ 5 i x) := by
  rw [wc_asC, wc_asC]
  refine (ap_set (by rw [show (plC pa σ (σ 814 0).toNatClampNeg).length = (σ 814 0).toNatClampNeg from mp_len]; exact hi)).trans ?_
  refine congrArg (fun z => (fxC ca h ad pa σ ++ plG pa σ (σ 811 0).toNatClampNeg ++ plU pa σ (σ 812 0).toNatClampNeg) ++ (z ++ (plD pa σ (σ 815 0).toNatClampNeg))) (mp_set (F' := fun i_1 => (pa 2 i_1, (.inr (0, [.int (put σ 5 i x 0 i_1), .int (put σ 5 i x 1 i_1), .int (put σ 5 i x 2 i_1), .int (put σ 5 i x 3 i_1), .int (put σ 5 i x 4 i_1), .int (put σ 5 i x 5 i_1), .int (put σ 5 i x 6 i_1), .int (put σ 5 i x 7 i_1), .int (put σ 5 i x 8 i_1)]) : va_E))) ?_ ?_)
  · simp only [put_same]
    rfl
  · intro j hj
    simp only [put_oth hj]
    rfl
theorem wc_sC6 {i : Nat} {x : Int32} (hi : i < (σ 814 0).toNatClampNeg) : (WC ca h ad pa σ).set (pcC ca h ad pa σ i) (pa 2 i, .inr (0, ([.int (σ 0 i), .int (σ 1 i), .int (σ 2 i), .int (σ 3 i), .int (σ 4 i), .int (σ 5 i), .int (σ 6 i), .int (σ 7 i), .int (σ 8 i)] : List Value).set 6 (.int x))) = WC ca h ad pa (put σ 6 i x) := by
  rw [wc_asC, wc_asC]
  refine (ap_set (by rw [show (plC pa σ (σ 814 0).toNatClampNeg).length = (σ 814 0).toNatClampNeg from mp_len]; exact hi)).trans ?_
  refine congrArg (fun z => (fxC ca h ad pa σ ++ plG pa σ (σ 811 0).toNatClampNeg ++ plU pa σ (σ 812 0).toNatClampNeg) ++ (z ++ (plD pa σ (σ 815 0).toNatClampNeg))) (mp_set (F' := fun i_1 => (pa 2 i_1, (.inr (0, [.int (put σ 6 i x 0 i_1), .int (put σ 6 i x 1 i_1), .int (put σ 6 i x 2 i_1), .int (put σ 6 i x 3 i_1), .int (put σ 6 i x 4 i_1), .int (put σ 6 i x 5 i_1), .int (put σ 6 i x 6 i_1), .int (put σ 6 i x 7 i_1), .int (put σ 6 i x 8 i_1)]) : va_E))) ?_ ?_)
  · simp only [put_same]
    rfl
  · intro j hj
    simp only [put_oth hj]
    rfl
theorem wc_sC7 {i : Nat} {x : Int32} (hi : i < (σ 814 0).toNatClampNeg) : (WC ca h ad pa σ).set (pcC ca h ad pa σ i) (pa 2 i, .inr (0, ([.int (σ 0 i), .int (σ 1 i), .int (σ 2 i), .int (σ 3 i), .int (σ 4 i), .int (σ 5 i), .int (σ 6 i), .int (σ 7 i), .int (σ 8 i)] : List Value).set 7 (.int x))) = WC ca h ad pa (put σ 7 i x) := by
  rw [wc_asC, wc_asC]
  refine (ap_set (by rw [show (plC pa σ (σ 814 0).toNatClampNeg).length = (σ 814 0).toNatClampNeg from mp_len]; exact hi)).trans ?_
  refine congrArg (fun z => (fxC ca h ad pa σ ++ plG pa σ (σ 811 0).toNatClampNeg ++ plU pa σ (σ 812 0).toNatClampNeg) ++ (z ++ (plD pa σ (σ 815 0).toNatClampNeg))) (mp_set (F' := fun i_1 => (pa 2 i_1, (.inr (0, [.int (put σ 7 i x 0 i_1), .int (put σ 7 i x 1 i_1), .int (put σ 7 i x 2 i_1), .int (put σ 7 i x 3 i_1), .int (put σ 7 i x 4 i_1), .int (put σ 7 i x 5 i_1), .int (put σ 7 i x 6 i_1), .int (put σ 7 i x 7 i_1), .int (put σ 7 i x 8 i_1)]) : va_E))) ?_ ?_)
  · simp only [put_same]
    rfl
  · intro j hj
    simp only [put_oth hj]
    rfl
theorem wc_sC8 {i : Nat} {x : Int32} (hi : i < (σ 814 0).toNatClampNeg) : (WC ca h ad pa σ).set (pcC ca h ad pa σ i) (pa 2 i, .inr (0, ([.int (σ 0 i), .int (σ 1 i), .int (σ 2 i), .int (σ 3 i), .int (σ 4 i), .int (σ 5 i), .int (σ 6 i), .int (σ 7 i), .int (σ 8 i)] : List Value).set 8 (.int x))) = WC ca h ad pa (put σ 8 i x) := by
  rw [wc_asC, wc_asC]
  refine (ap_set (by rw [show (plC pa σ (σ 814 0).toNatClampNeg).length = (σ 814 0).toNatClampNeg from mp_len]; exact hi)).trans ?_
  refine congrArg (fun z => (fxC ca h ad pa σ ++ plG pa σ (σ 811 0).toNatClampNeg ++ plU pa σ (σ 812 0).toNatClampNeg) ++ (z ++ (plD pa σ (σ 815 0).toNatClampNeg))) (mp_set (F' := fun i_1 => (pa 2 i_1, (.inr (0, [.int (put σ 8 i x 0 i_1), .int (put σ 8 i x 1 i_1), .int (put σ 8 i x 2 i_1), .int (put σ 8 i x 3 i_1), .int (put σ 8 i x 4 i_1), .int (put σ 8 i x 5 i_1), .int (put σ 8 i x 6 i_1), .int (put σ 8 i x 7 i_1), .int (put σ 8 i x 8 i_1)]) : va_E))) ?_ ?_)
  · simp only [put_same]
    rfl
  · intro j hj
    simp only [put_oth hj]
    rfl
end WCC
def pcD (ca : Nat → ClassId) (h : Nat) (ad : Nat → Nat) (pa : Nat → Nat → Nat) (σ : St) (i : Nat) : Nat := (fxC ca h ad pa σ ++ plG pa σ (σ 811 0).toNatClampNeg ++ plU pa σ (σ 812 0).toNatClampNeg ++ plC pa σ (σ 814 0).toNatClampNeg).length + i
section WCD
variable {ca : Nat → ClassId} {h : Nat} {ad : Nat → Nat} {pa : Nat → Nat → Nat} {σ : St}
theorem wc_asD : WC ca h ad pa σ = (fxC ca h ad pa σ ++ plG pa σ (σ 811 0).toNatClampNeg ++ plU pa σ (σ 812 0).toNatClampNeg ++ plC pa σ (σ 814 0).toNatClampNeg) ++ (plD pa σ (σ 815 0).toNatClampNeg ++ ([])) := by
  unfold WC
  simp only [List.append_assoc, List.append_nil]
theorem wc_aD {i : Nat} (hi : i < (σ 815 0).toNatClampNeg) : (WC ca h ad pa σ)[pcD ca h ad pa σ i]? = some (pa 3 i, .inr (2, [.int (σ 200 i), .int (σ 201 i), .int (σ 202 i), .int (σ 203 i), .int (σ 204 i), .int (σ 205 i), .int (σ 206 i), .int (σ 207 i)])) := by
  rw [wc_asD]
  exact ap_at (mp_at hi)
theorem wc_sD0 {i : Nat} {x : Int32} (hi : i < (σ 815 0).toNatClampNeg) : (WC ca h ad pa σ).set (pcD ca h ad pa σ i) (pa 3 i, .inr (2, ([.int (σ 200 i), .int (σ 201 i), .int (σ 202 i), .int (σ 203 i), .int (σ 204 i), .int (σ 205 i), .int (σ 206 i), .int (σ 207 i)] : List Value).set 0 (.int x))) = WC ca h ad pa (put σ 200 i x) := by
  rw [wc_asD, wc_asD]
  refine (ap_set (by rw [show (plD pa σ (σ 815 0).toNatClampNeg).length = (σ 815 0).toNatClampNeg from mp_len]; exact hi)).trans ?_
  refine congrArg (fun z => (fxC ca h ad pa σ ++ plG pa σ (σ 811 0).toNatClampNeg ++ plU pa σ (σ 812 0).toNatClampNeg ++ plC pa σ (σ 814 0).toNatClampNeg) ++ (z ++ ([]))) (mp_set (F' := fun i_1 => (pa 3 i_1, (.inr (2, [.int (put σ 200 i x 200 i_1), .int (put σ 200 i x 201 i_1), .int (put σ 200 i x 202 i_1), .int (put σ 200 i x 203 i_1), .int (put σ 200 i x 204 i_1), .int (put σ 200 i x 205 i_1), .int (put σ 200 i x 206 i_1), .int (put σ 200 i x 207 i_1)]) : va_E))) ?_ ?_)
  · simp only [put_same]
    rfl
  · intro j hj
    simp only [put_oth hj]
    rfl
theorem wc_sD1 {i : Nat} {x : Int32} (hi : i < (σ 815 0).toNatClampNeg) : (WC ca h ad pa σ).set (pcD ca h ad pa σ i) (pa 3 i, .inr (2, ([.int (σ 200 i), .int (σ 201 i), .int (σ 202 i), .int (σ 203 i), .int (σ 204 i), .int (σ 205 i), .int (σ 206 i), .int (σ 207 i)] : List Value).set 1 (.int x))) = WC ca h ad pa (put σ 201 i x) := by
  rw [wc_asD, wc_asD]
  refine (ap_set (by rw [show (plD pa σ (σ 815 0).toNatClampNeg).length = (σ 815 0).toNatClampNeg from mp_len]; exact hi)).trans ?_
  refine congrArg (fun z => (fxC ca h ad pa σ ++ plG pa σ (σ 811 0).toNatClampNeg ++ plU pa σ (σ 812 0).toNatClampNeg ++ plC pa σ (σ 814 0).toNatClampNeg) ++ (z ++ ([]))) (mp_set (F' := fun i_1 => (pa 3 i_1, (.inr (2, [.int (put σ 201 i x 200 i_1), .int (put σ 201 i x 201 i_1), .int (put σ 201 i x 202 i_1), .int (put σ 201 i x 203 i_1), .int (put σ 201 i x 204 i_1), .int (put σ 201 i x 205 i_1), .int (put σ 201 i x 206 i_1), .int (put σ 201 i x 207 i_1)]) : va_E))) ?_ ?_)
  · simp only [put_same]
    rfl
  · intro j hj
    simp only [put_oth hj]
    rfl
theorem wc_sD2 {i : Nat} {x : Int32} (hi : i < (σ 815 0).toNatClampNeg) : (WC ca h ad pa σ).set (pcD ca h ad pa σ i) (pa 3 i, .inr (2, ([.int (σ 200 i), .int (σ 201 i), .int (σ 202 i), .int (σ 203 i), .int (σ 204 i), .int (σ 205 i), .int (σ 206 i), .int (σ 207 i)] : List Value).set 2 (.int x))) = WC ca h ad pa (put σ 202 i x) := by
  rw [wc_asD, wc_asD]
  refine (ap_set (by rw [show (plD pa σ (σ 815 0).toNatClampNeg).length = (σ 815 0).toNatClampNeg from mp_len]; exact hi)).trans ?_
  refine congrArg (fun z => (fxC ca h ad pa σ ++ plG pa σ (σ 811 0).toNatClampNeg ++ plU pa σ (σ 812 0).toNatClampNeg ++ plC pa σ (σ 814 0).toNatClampNeg) ++ (z ++ ([]))) (mp_set (F' := fun i_1 => (pa 3 i_1, (.inr (2, [.int (put σ 202 i x 200 i_1), .int (put σ 202 i x 201 i_1), .int (put σ 202 i x 202 i_1), .int (put σ 202 i x 203 i_1), .int (put σ 202 i x 204 i_1), .int (put σ 202 i x 205 i_1), .int (put σ 202 i x 206 i_1), .int (put σ 202 i x 207 i_1)]) : va_E))) ?_ ?_)
  · simp only [put_same]
    rfl
  · intro j hj
    simp only [put_oth hj]
    rfl
theorem wc_sD3 {i : Nat} {x : Int32} (hi : i < (σ 815 0).toNatClampNeg) : (WC ca h ad pa σ).set (pcD ca h ad pa σ i) (pa 3 i, .inr (2, ([.int (σ 200 i), .int (σ 201 i), .int (σ 202 i), .int (σ 203 i), .int (σ 204 i), .int (σ 205 i), .int (σ 206 i), .int (σ 207 i)] : List Value).set 3 (.int x))) = WC ca h ad pa (put σ 203 i x) := by
  rw [wc_asD, wc_asD]
  refine (ap_set (by rw [show (plD pa σ (σ 815 0).toNatClampNeg).length = (σ 815 0).toNatClampNeg from mp_len]; exact hi)).trans ?_
  refine congrArg (fun z => (fxC ca h ad pa σ ++ plG pa σ (σ 811 0).toNatClampNeg ++ plU pa σ (σ 812 0).toNatClampNeg ++ plC pa σ (σ 814 0).toNatClampNeg) ++ (z ++ ([]))) (mp_set (F' := fun i_1 => (pa 3 i_1, (.inr (2, [.int (put σ 203 i x 200 i_1), .int (put σ 203 i x 201 i_1), .int (put σ 203 i x 202 i_1), .int (put σ 203 i x 203 i_1), .int (put σ 203 i x 204 i_1), .int (put σ 203 i x 205 i_1), .int (put σ 203 i x 206 i_1), .int (put σ 203 i x 207 i_1)]) : va_E))) ?_ ?_)
  · simp only [put_same]
    rfl
  · intro j hj
    simp only [put_oth hj]
    rfl
theorem wc_sD4 {i : Nat} {x : Int32} (hi : i < (σ 815 0).toNatClampNeg) : (WC ca h ad pa σ).set (pcD ca h ad pa σ i) (pa 3 i, .inr (2, ([.int (σ 200 i), .int (σ 201 i), .int (σ 202 i), .int (σ 203 i), .int (σ 204 i), .int (σ 205 i), .int (σ 206 i), .int (σ 207 i)] : List Value).set 4 (.int x))) = WC ca h ad pa (put σ 204 i x) := by
  rw [wc_asD, wc_asD]
  refine (ap_set (by rw [show (plD pa σ (σ 815 0).toNatClampNeg).length = (σ 815 0).toNatClampNeg from mp_len]; exact hi)).trans ?_
  refine congrArg (fun z => (fxC ca h ad pa σ ++ plG pa σ (σ 811 0).toNatClampNeg ++ plU pa σ (σ 812 0).toNatClampNeg ++ plC pa σ (σ 814 0).toNatClampNeg) ++ (z ++ ([]))) (mp_set (F' := fun i_1 => (pa 3 i_1, (.inr (2, [.int (put σ 204 i x 200 i_1), .int (put σ 204 i x 201 i_1), .int (put σ 204 i x 202 i_1), .int (put σ 204 i x 203 i_1), .int (put σ 204 i x 204 i_1), .int (put σ 204 i x 205 i_1), .int (put σ 204 i x 206 i_1), .int (put σ 204 i x 207 i_1)]) : va_E))) ?_ ?_)
  · simp only [put_same]
    rfl
  · intro j hj
    simp only [put_oth hj]
    rfl
theorem wc_sD5 {i : Nat} {x : Int32} (hi : i < (σ 815 0).toNatClampNeg) : (WC ca h ad pa σ).set (pcD ca h ad pa σ i) (pa 3 i, .inr (2, ([.int (σ 200 i), .int (σ 201 i), .int (σ 202 i), .int (σ 203 i), .int (σ 204 i), .int (σ 205 i), .int (σ 206 i), .int (σ 207 i)] : List Value).set 5 (.int x))) = WC ca h ad pa (put σ 205 i x) := by
  rw [wc_asD, wc_asD]
  refine (ap_set (by rw [show (plD pa σ (σ 815 0).toNatClampNeg).length = (σ 815 0).toNatClampNeg from mp_len]; exact hi)).trans ?_
  refine congrArg (fun z => (fxC ca h ad pa σ ++ plG pa σ (σ 811 0).toNatClampNeg ++ plU pa σ (σ 812 0).toNatClampNeg ++ plC pa σ (σ 814 0).toNatClampNeg) ++ (z ++ ([]))) (mp_set (F' := fun i_1 => (pa 3 i_1, (.inr (2, [.int (put σ 205 i x 200 i_1), .int (put σ 205 i x 201 i_1), .int (put σ 205 i x 202 i_1), .int (put σ 205 i x 203 i_1), .int (put σ 205 i x 204 i_1), .int (put σ 205 i x 205 i_1), .int (put σ 205 i x 206 i_1), .int (put σ 205 i x 207 i_1)]) : va_E))) ?_ ?_)
  · simp only [put_same]
    rfl
  · intro j hj
    simp only [put_oth hj]
    rfl
theorem wc_sD6 {i : Nat} {x : Int32} (hi : i < (σ 815 0).toNatClampNeg) : (WC ca h ad pa σ).set (pcD ca h ad pa σ i) (pa 3 i, .inr (2, ([.int (σ 200 i), .int (σ 201 i), .int (σ 202 i), .int (σ 203 i), .int (σ 204 i), .int (σ 205 i), .int (σ 206 i), .int (σ 207 i)] : List Value).set 6 (.int x))) = WC ca h ad pa (put σ 206 i x) := by
  rw [wc_asD, wc_asD]
  refine (ap_set (by rw [show (plD pa σ (σ 815 0).toNatClampNeg).length = (σ 815 0).toNatClampNeg from mp_len]; exact hi)).trans ?_
  refine congrArg (fun z => (fxC ca h ad pa σ ++ plG pa σ (σ 811 0).toNatClampNeg ++ plU pa σ (σ 812 0).toNatClampNeg ++ plC pa σ (σ 814 0).toNatClampNeg) ++ (z ++ ([]))) (mp_set (F' := fun i_1 => (pa 3 i_1, (.inr (2, [.int (put σ 206 i x 200 i_1), .int (put σ 206 i x 201 i_1), .int (put σ 206 i x 202 i_1), .int (put σ 206 i x 203 i_1), .int (put σ 206 i x 204 i_1), .int (put σ 206 i x 205 i_1), .int (put σ 206 i x 206 i_1), .int (put σ 206 i x 207 i_1)]) : va_E))) ?_ ?_)
  · simp only [put_same]
    rfl
  · intro j hj
    simp only [put_oth hj]
    rfl
theorem wc_sD7 {i : Nat} {x : Int32} (hi : i < (σ 815 0).toNatClampNeg) : (WC ca h ad pa σ).set (pcD ca h ad pa σ i) (pa 3 i, .inr (2, ([.int (σ 200 i), .int (σ 201 i), .int (σ 202 i), .int (σ 203 i), .int (σ 204 i), .int (σ 205 i), .int (σ 206 i), .int (σ 207 i)] : List Value).set 7 (.int x))) = WC ca h ad pa (put σ 207 i x) := by
  rw [wc_asD, wc_asD]
  refine (ap_set (by rw [show (plD pa σ (σ 815 0).toNatClampNeg).length = (σ 815 0).toNatClampNeg from mp_len]; exact hi)).trans ?_
  refine congrArg (fun z => (fxC ca h ad pa σ ++ plG pa σ (σ 811 0).toNatClampNeg ++ plU pa σ (σ 812 0).toNatClampNeg ++ plC pa σ (σ 814 0).toNatClampNeg) ++ (z ++ ([]))) (mp_set (F' := fun i_1 => (pa 3 i_1, (.inr (2, [.int (put σ 207 i x 200 i_1), .int (put σ 207 i x 201 i_1), .int (put σ 207 i x 202 i_1), .int (put σ 207 i x 203 i_1), .int (put σ 207 i x 204 i_1), .int (put σ 207 i x 205 i_1), .int (put σ 207 i x 206 i_1), .int (put σ 207 i x 207 i_1)]) : va_E))) ?_ ?_)
  · simp only [put_same]
    rfl
  · intro j hj
    simp only [put_oth hj]
    rfl
end WCD
def pcpy (σ : St) : St := fun f => cond (Nat.beq f 603) (va_cpy (σ 602) (σ 603) 0 0 4) (σ f)
theorem pcpy_fr {σ : St} {f : Nat} (h : f ≠ 603) : pcpy σ f = σ f := by
  show cond (Nat.beq f 603) (va_cpy (σ 602) (σ 603) 0 0 4) (σ f) = σ f
  cases e : Nat.beq f 603 with
  | true => exact absurd (Nat.eq_of_beq_eq_true e) h
  | false => rfl
theorem wc_cpy {ca : Nat → ClassId} {h : Nat} {ad : Nat → Nat} {pa : Nat → Nat → Nat} {σ : St} : (WC ca h ad pa σ).set 24 (ad 603, .inl (ca 0, 4, .inl (va_cpy (σ 602) (σ 603) (0 : Int32).toNatClampNeg (0 : Int32).toNatClampNeg (4 : Int32).toNatClampNeg))) = WC ca h ad pa (pcpy σ) := rfl
def prow (σ : St) (k i : Nat) (x : Int32) : St := fun f => cond (Nat.ble 620 f && Nat.ble f 625 && Nat.beq f (620 + k)) (upd (σ f) i x) (σ f)
theorem prow_fr {σ : St} {k i f : Nat} {x : Int32} (h0 : f ≠ 620) (h1 : f ≠ 621) (h2 : f ≠ 622) (h3 : f ≠ 623) (h4 : f ≠ 624) (h5 : f ≠ 625) : prow σ k i x f = σ f := by
  show cond (Nat.ble 620 f && Nat.ble f 625 && Nat.beq f (620 + k)) (upd (σ f) i x) (σ f) = σ f
  have e : (Nat.ble 620 f && Nat.ble f 625) = false := by
    cases e1 : Nat.ble 620 f with
    | false => rfl
    | true =>
      cases e2 : Nat.ble f 625 with
      | false => rfl
      | true =>
        have a := Nat.le_of_ble_eq_true e1
        have b := Nat.le_of_ble_eq_true e2
        omega
  rw [e]
  rfl
theorem wc_row {ca : Nat → ClassId} {h : Nat} {ad : Nat → Nat} {pa : Nat → Nat → Nat} {σ : St} : ∀ {k : Nat}, k < 6 → (WC ca h ad pa σ)[26 + k]? = some (ad (620 + k), .inl (ca 0, 16, .inl (σ (620 + k))))
  | 0, _ => rfl
  | 1, _ => rfl
  | 2, _ => rfl
  | 3, _ => rfl
  | 4, _ => rfl
  | 5, _ => rfl
  | k + 6, hk => absurd hk (by omega)
theorem wc_rows {ca : Nat → ClassId} {h : Nat} {ad : Nat → Nat} {pa : Nat → Nat → Nat} {σ : St} {i : Nat} {x : Int32} : ∀ {k : Nat}, k < 6 → (WC ca h ad pa σ).set (26 + k) (ad (620 + k), .inl (ca 0, 16, .inl (upd (σ (620 + k)) i x))) = WC ca h ad pa (prow σ k i x)
  | 0, _ => rfl
  | 1, _ => rfl
  | 2, _ => rfl
  | 3, _ => rfl
  | 4, _ => rfl
  | 5, _ => rfl
  | k + 6, hk => absurd hk (by omega)
def pb (j : Nat) : Int32 := if j = 0 then 30 else if j = 1 then 45 else 6
/-- the table of parts, a static that nobody writes -/
def SX (tb : Nat) (A : Nat → Prop) (U : State) (H : Heap) : Prop := va_Nw (.fieldLinkNest RX2 36 "GrazeBook" "PARTS_OF_A_BEAST" "[I" "GrazeBook") U ∧ va_Z "GrazeBook" "PARTS_OF_A_BEAST" "[I" (.ref tb) A U H ∧ va_T .int tb 3 (fun j => .int (pb j)) A U H
def cw_pre (D : va_G) (ca : Nat → ClassId) (ws : va_W) (sz tb : Nat) (U : State) : Prop := pw_pre D ca ws sz U ∧ SX tb (va_A ws sz) U U.heap
theorem cw_blind {av : List Value} {D : va_G} {ca : Nat → ClassId} {ws : va_W} {sz tb : Nat} : FrameBlind (va_Pc av (cw_pre D ca ws sz tb)) := fun a U g mk q => ⟨q.1, (pw_blind (av := av) a U g mk ⟨q.1, q.2.1⟩).2, va_Nw.same (u := U) (U := U.calling g mk a) rfl rfl q.2.2.1, va_Z.moved (u := U) (U := U.calling g mk a) (Vm.Alike.refl U.vm) q.2.2.2.1, va_T.moved (u := U) (U := U.calling g mk a) (Vm.Alike.refl U.vm) q.2.2.2.2⟩
theorem cw_give {av : List Value} {D : va_G} {ca : Nat → ClassId} {ws : va_W} {A : Nat → Prop} {s : State} {H : Heap} {locs : List Loc} {tb : Nat} (hP : va_P D vwCl ws H) (hK : va_K D vwCl (TY ca) s) (hD : va_D A ws) (hZ : SX tb A s s.heap) (hS : va_S A s.heap H locs) (hF : ∀ q, va_A ws H.size q → A q) : ∀ U : State, U.heap = H → s.WarmedH U.vm → va_Pc av (cw_pre D ca ws H.size tb) av.toArray U := fun U hU hW => ⟨rfl, (pw_give (av := av) hP hK hD U hU hW).2, va_Nw.warmF hW hZ.1, by rw [hU]; exact ((hZ.2.1.kept hS.2.1).moved hW.alike).narrow hF, by rw [hU]; exact ((hZ.2.2.kept hS.2.1).moved hW.alike).narrow hF⟩
theorem k_ltb {k n : Nat} {b : Int32} (h : lpk b k (n + 1)) : k < b.toNatClampNeg := by
  obtain ⟨h, h2⟩ := h
  omega
theorem cnt_cast {a b : Int32} {k : Nat} (e : a = b) (h : k < b.toNatClampNeg) : k < a.toNatClampNeg := by rw [e]; exact h
theorem rf_at {n i : Nat} {g : Nat → Nat} (h : i < n) : va_rf ((fun j => if j < n then some (g j) else none) i) = .ref (g i) := by
  show va_rf (if i < n then some (g i) else none) = _
  rw [if_pos h]
  rfl
section RDQ
variable {p : Program} {l : Launch} {e : Env} {R : Room} {s : State} {m : MethodId} {args : Array Value} {below : List Frame} {meth : Method} {c : Code} {H : Heap} {locs : List Loc} {cells slots : Nat} {Q : State → Prop}
variable {cc : ByteArray} {pc : Nat} {ls : Array Slot} {rest : List Value} {D : va_G} {cl : List vw_C} {A : Nat → Prop} {a : Nat} {tys : List (ClassId × FieldType)} {ws : va_W} {H0 : Heap}
theorem va_aldq_k (hexec : p.tables.exec = Jvm.exec) (hb : c.code = cc) (hK : va_K D cl tys s) (hP : va_P D cl ws H) (q0 t0 : Nat) {cA : ClassId} {C : String} {n k b : Nat} {f : Nat → Option Nat} (ha : ws[q0]? = some (a, .inl (cA, n, .inr (.inr (.inr (.inr f)))))) (ht : tys[t0]? = some (cA, .object C)) {i : Int32} (hi : i.toNatClampNeg = k) (hv : va_rf (f k) = .ref b) (hin : vp_in i n) (hdg : decode cc pc = .ok (.aaload, 1))
    (kk : W p l e R s m args below meth c H locs cells slots Q (F0 m (pc + 1) ls (.ref b :: rest))) : W p l e R s m args below meth c H locs cells slots Q (F0 m pc ls (.int i :: .ref a :: rest)) := by
  subst hi
  refine va_aldq hexec hb hK hP q0 t0 ha ht hin hdg ?_
  rw [hv]
  exact kk
theorem va_aldqA_k (hexec : p.tables.exec = Jvm.exec) (hb : c.code = cc) (hK : va_K D cl tys s) (hP : va_P D cl ws H) (q0 t0 : Nat) {cA : ClassId} {ty : FieldType} {n k b : Nat} {f : Nat → Option Nat} (ha : ws[q0]? = some (a, .inl (cA, n, .inr (.inr (.inr (.inr f)))))) (ht : tys[t0]? = some (cA, .array ty)) {i : Int32} (hi : i.toNatClampNeg = k) (hv : va_rf (f k) = .ref b) (hin : vp_in i n) (hdg : decode cc pc = .ok (.aaload, 1))
    (kk : W p l e R s m args below meth c H locs cells slots Q (F0 m (pc + 1) ls (.ref b :: rest))) : W p l e R s m args below meth c H locs cells slots Q (F0 m pc ls (.int i :: .ref a :: rest)) := by
  subst hi
  have hlt : i.toNatClampNeg < n := Nat.not_le.mp fun q => hin (Or.inr q)
  exact W.aald (v := .ref b) (ty := .array ty) hexec hb (hP q0 _ ha) ((hK.2 t0 _ ht).1 n (fun j => va_rf (f j))) rfl (fun q => by cases q) (by show ¬ (i < 0 ∨ (arrV _ _ _).slots.size ≤ _); rw [arrV_size]; exact hin) (by show (arrV _ _ _).slots[_]? = _; rw [arrV_read _ _ hlt, hv]) rfl rfl hdg kk
end RDQ
/-- what holds of the class's object between calls -/
def IX (σ : St) : Prop := (0 ≤ (σ 811 0).toInt ∧ (σ 811 0).toInt ≤ 6) ∧ (0 ≤ (σ 812 0).toInt ∧ (σ 812 0).toInt ≤ 10) ∧ (0 ≤ (σ 813 0).toInt ∧ (σ 813 0).toInt ≤ 10) ∧ (0 ≤ (σ 814 0).toInt ∧ (σ 814 0).toInt ≤ 60) ∧ (0 ≤ (σ 815 0).toInt ∧ (σ 815 0).toInt ≤ 20) ∧ (0 ≤ (σ 816 0).toInt ∧ (σ 816 0).toInt ≤ 720) ∧ (0 ≤ (σ 304 0).toInt ∧ (σ 304 0).toInt ≤ 20) ∧ (∀ k : Nat, 0 ≤ (σ 701 k).toInt ∧ (σ 701 k).toInt < 100) ∧ (∀ k : Nat, k < (σ 815 0).toNatClampNeg → 0 ≤ (σ 200 k).toInt ∧ (σ 200 k).toInt < (σ 812 0).toInt) ∧ (((σ 607 0 = 1 ∧ (σ 608 0).toInt ≤ 4) ∨ (σ 607 0 = 2 ∧ (σ 608 0).toInt ≤ 2)) ∧ 0 ≤ (σ 608 0).toInt)
theorem ix_811 {σ : St} (h : IX σ) : 0 ≤ (σ 811 0).toInt ∧ (σ 811 0).toInt ≤ ((6 : Nat) : Int) := h.1
theorem ix_812 {σ : St} (h : IX σ) : 0 ≤ (σ 812 0).toInt ∧ (σ 812 0).toInt ≤ ((10 : Nat) : Int) := h.2.1
theorem ix_813 {σ : St} (h : IX σ) : 0 ≤ (σ 813 0).toInt ∧ (σ 813 0).toInt ≤ ((10 : Nat) : Int) := h.2.2.1
theorem ix_814 {σ : St} (h : IX σ) : 0 ≤ (σ 814 0).toInt ∧ (σ 814 0).toInt ≤ ((60 : Nat) : Int) := h.2.2.2.1
theorem ix_815 {σ : St} (h : IX σ) : 0 ≤ (σ 815 0).toInt ∧ (σ 815 0).toInt ≤ ((20 : Nat) : Int) := h.2.2.2.2.1
theorem ix_816 {σ : St} (h : IX σ) : 0 ≤ (σ 816 0).toInt ∧ (σ 816 0).toInt ≤ ((720 : Nat) : Int) := h.2.2.2.2.2.1
theorem ix_304 {σ : St} (h : IX σ) : 0 ≤ (σ 304 0).toInt ∧ (σ 304 0).toInt ≤ ((20 : Nat) : Int) := h.2.2.2.2.2.2.1
theorem ix_701 {σ : St} (h : IX σ) (k : Nat) : 0 ≤ (σ 701 k).toInt ∧ (σ 701 k).toInt < 100 := h.2.2.2.2.2.2.2.1 k
theorem ix_200 {σ : St} (h : IX σ) {k : Nat} (hk : k < (σ 815 0).toNatClampNeg) : 0 ≤ (σ 200 k).toInt ∧ (σ 200 k).toInt < (σ 812 0).toInt := h.2.2.2.2.2.2.2.2.1 k hk
theorem ix_607 {σ : St} (h : IX σ) : ((σ 607 0 = 1 ∧ (σ 608 0).toInt ≤ 4) ∨ (σ 607 0 = 2 ∧ (σ 608 0).toInt ≤ 2)) ∧ 0 ≤ (σ 608 0).toInt := h.2.2.2.2.2.2.2.2.2

theorem ix_ltn {x n : Int32} {N M : Nat} (h : 0 ≤ x.toInt ∧ x.toInt ≤ (N : Int)) (c : x < n) (hn : n.toInt = (M : Int)) : vp_in x M := by
  rw [Int32.lt_iff_toInt_lt] at c
  rw [vp_in_iff]
  omega
theorem ix_rng {x n : Int32} {M : Nat} (h : 0 ≤ x) (c : x < n) (hn : n.toInt = (M : Int)) : vp_in x M := by
  rw [Int32.lt_iff_toInt_lt] at c
  rw [Int32.le_iff_toInt_le, show (0 : Int32).toInt = 0 from by decide] at h
  rw [vp_in_iff]
  omega
theorem ix_ref2 {x : Int32} (h1 : 11 ≤ x) (h2 : x ≤ 16) : vp_in (x - 10) 7 := by
  rw [Int32.le_iff_toInt_le] at h1 h2
  rw [show (11 : Int32).toInt = 11 from by decide] at h1
  rw [show (16 : Int32).toInt = 16 from by decide] at h2
  have e : (10 : Int32).toInt = 10 := by decide
  rw [vp_in_iff, sub_ti (by rw [e]; omega) (by rw [e]; omega), e]
  omega
theorem ix_neg {x : Int32} (h1 : x < 0) (h2 : -6 ≤ x) : vp_in (-x) 7 := by
  rw [Int32.lt_iff_toInt_lt, show (0 : Int32).toInt = 0 from by decide] at h1
  rw [Int32.le_iff_toInt_le, show (-6 : Int32).toInt = -6 from by decide] at h2
  rw [vp_in_iff, Int32.toInt_neg, Int.bmod_eq_of_le (by omega) (by omega)]
  omega
theorem nz_le {x : Int32} (h : ¬ x ≤ 0) : ¬ x = 0 := fun e => h (by rw [e]; decide)
theorem ix_inc {x n : Int32} {N : Nat} (h : 0 ≤ x.toInt ∧ x.toInt ≤ (N : Int)) (c : x < n) (hn : n.toInt = (N : Int)) (hN : N < 1000000) : 0 ≤ (x + 1).toInt ∧ (x + 1).toInt ≤ (N : Int) := by
  rw [Int32.lt_iff_toInt_lt] at c
  have e1 : (1 : Int32).toInt = 1 := by decide
  rw [add_ti (by rw [e1]; omega) (by rw [e1]; omega), e1]
  omega

theorem ix_put813 {σ : St} (h : IX σ) {x : Int32} (hx : 0 ≤ x.toInt ∧ x.toInt ≤ ((10 : Nat) : Int)) : IX (put σ 813 0 x) := by
  obtain ⟨c811, c812, c813, c814, c815, c816, c304, c701, c200, c607⟩ := h
  exact ⟨c811, c812, hx, c814, c815, c816, c304, c701, c200, c607⟩
theorem ix_put816 {σ : St} (h : IX σ) {x : Int32} (hx : 0 ≤ x.toInt ∧ x.toInt ≤ ((720 : Nat) : Int)) : IX (put σ 816 0 x) := by
  obtain ⟨c811, c812, c813, c814, c815, c816, c304, c701, c200, c607⟩ := h
  exact ⟨c811, c812, c813, c814, c815, hx, c304, c701, c200, c607⟩
theorem ix_put304 {σ : St} (h : IX σ) {x : Int32} (hx : 0 ≤ x.toInt ∧ x.toInt ≤ ((20 : Nat) : Int)) : IX (put σ 304 0 x) := by
  obtain ⟨c811, c812, c813, c814, c815, c816, c304, c701, c200, c607⟩ := h
  exact ⟨c811, c812, c813, c814, c815, c816, hx, c701, c200, c607⟩
theorem ix_put701 {σ : St} (h : IX σ) {i : Nat} {x : Int32} (hx : 0 ≤ x.toInt ∧ x.toInt < 100) : IX (put σ 701 i x) := by
  obtain ⟨c811, c812, c813, c814, c815, c816, c304, c701, c200, c607⟩ := h
  exact ⟨c811, c812, c813, c814, c815, c816, c304, (fun k => by
    show 0 ≤ (upd (σ 701) i x k).toInt ∧ (upd (σ 701) i x k).toInt < 100
    by_cases hk : k = i
    · subst hk; simp only [pk_us]; exact hx
    · simp only [pk_un hk]; exact c701 k), c200, c607⟩
theorem ix_putplan {σ : St} (h : IX σ) {x y : Int32} (hx : ((x = 1 ∧ y.toInt ≤ 4) ∨ (x = 2 ∧ y.toInt ≤ 2)) ∧ 0 ≤ y.toInt) : IX (put (put σ 607 0 x) 608 0 y) := by
  obtain ⟨c811, c812, c813, c814, c815, c816, c304, c701, c200, c607⟩ := h
  exact ⟨c811, c812, c813, c814, c815, c816, c304, c701, c200, hx⟩

theorem inc_nI {a : Int32} {N : Nat} (h : vp_in a N) (hN : N ≤ 1000) : a + 1 = nI (a.toNatClampNeg + 1) := by
  rw [vp_in_iff] at h
  rw [← nI_1, nI_tn h.1]
theorem inc_lt {a : Int32} {N : Nat} (h : vp_in a N) (hN : N ≤ 1000) : a.toNatClampNeg + 1 < 2147483648 := by
  rw [vp_in_iff] at h
  rw [tn_toInt]
  omega

