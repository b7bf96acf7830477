def fsM (ad : Nat → Nat) (σ : St) : List Value := [.ref (ad 0), .int (σ 1 0), .int (σ 2 0), .int (σ 3 0), .int (σ 4 0), .int (σ 5 0), .int (σ 6 0), .int (σ 7 0), .int (σ 8 0), .int (σ 9 0), .int (σ 10 0), .int (σ 11 0), .int (σ 12 0), .ref (ad 13), .ref (ad 14), .ref (ad 15), .ref (ad 16), .ref (ad 17), .ref (ad 18), .ref (ad 19), .ref (ad 20), .ref (ad 21), .ref (ad 22), .ref (ad 23), .ref (ad 24), .ref (ad 25), .ref (ad 26), .ref (ad 27), .ref (ad 28), .ref (ad 29), .ref (ad 30), .ref (ad 31), .ref (ad 32), .ref (ad 33), .ref (ad 34), .ref (ad 35), .ref (ad 36), .ref (ad 37), .ref (ad 38), .ref (ad 39), .ref (ad 40), .ref (ad 41), .ref (ad 42), .ref (ad 43), .ref (ad 44), .ref (ad 45), .ref (ad 46), .ref (ad 47), .ref (ad 48), .int (σ 49 0), .int (σ 50 0)]
def WM (ca : Nat → ClassId) (h : Nat) (ad : Nat → Nat) (σ : St) : va_W := [(h, .inr (9, fsM ad σ)), (ad 0, .inl (ca 0, 7, .inl (σ 0))), (ad 13, .inl (ca 0, 6, .inl (σ 13))), (ad 14, .inl (ca 0, 6, .inl (σ 14))), (ad 15, .inl (ca 0, 6, .inl (σ 15))), (ad 16, .inl (ca 0, 6, .inl (σ 16))), (ad 17, .inl (ca 0, 6, .inl (σ 17))), (ad 18, .inl (ca 1, 6, .inl (σ 18))), (ad 19, .inl (ca 0, 10, .inl (σ 19))), (ad 20, .inl (ca 0, 10, .inl (σ 20))), (ad 21, .inl (ca 0, 10, .inl (σ 21))), (ad 22, .inl (ca 0, 100, .inl (σ 22))), (ad 23, .inl (ca 0, 721, .inl (σ 23))), (ad 24, .inl (ca 0, 721, .inl (σ 24))), (ad 25, .inl (ca 0, 60, .inl (σ 25))), (ad 26, .inl (ca 0, 60, .inl (σ 26))), (ad 27, .inl (ca 0, 60, .inl (σ 27))), (ad 28, .inl (ca 0, 60, .inl (σ 28))), (ad 29, .inl (ca 0, 60, .inl (σ 29))), (ad 30, .inl (ca 0, 60, .inl (σ 30))), (ad 31, .inl (ca 0, 60, .inl (σ 31))), (ad 32, .inl (ca 0, 60, .inl (σ 32))), (ad 33, .inl (ca 1, 60, .inl (σ 33))), (ad 34, .inl (ca 1, 60, .inl (σ 34))), (ad 35, .inl (ca 0, 20, .inl (σ 35))), (ad 36, .inl (ca 0, 20, .inl (σ 36))), (ad 37, .inl (ca 0, 20, .inl (σ 37))), (ad 38, .inl (ca 0, 20, .inl (σ 38))), (ad 39, .inl (ca 0, 20, .inl (σ 39))), (ad 40, .inl (ca 0, 20, .inl (σ 40))), (ad 41, .inl (ca 0, 20, .inl (σ 41))), (ad 42, .inl (ca 0, 20, .inl (σ 42))), (ad 43, .inl (ca 0, 20, .inl (σ 43))), (ad 44, .inl (ca 0, 6, .inl (σ 44))), (ad 45, .inl (ca 0, 20, .inl (σ 45))), (ad 46, .inl (ca 0, 6, .inl (σ 46))), (ad 47, .inl (ca 0, 8, .inl (σ 47))), (ad 48, .inl (ca 0, 8, .inl (σ 48)))]
section WMS
variable {ca : Nat → ClassId} {h : Nat} {ad : Nat → Nat} {σ : St}
theorem wm_0 : (WM ca h ad σ)[0]? = some (h, .inr (9, fsM ad σ)) := rfl
theorem wm_a0 : (WM ca h ad σ)[1]? = some (ad 0, .inl (ca 0, 7, .inl (σ 0))) := rfl
theorem wm_s0 {i : Nat} {x : Int32} : (WM ca h ad σ).set 1 (ad 0, .inl (ca 0, 7, .inl (upd (σ 0) i x))) = WM ca h ad (put σ 0 i x) := rfl
theorem wm_a13 : (WM ca h ad σ)[2]? = some (ad 13, .inl (ca 0, 6, .inl (σ 13))) := rfl
theorem wm_s13 {i : Nat} {x : Int32} : (WM ca h ad σ).set 2 (ad 13, .inl (ca 0, 6, .inl (upd (σ 13) i x))) = WM ca h ad (put σ 13 i x) := rfl
theorem wm_a14 : (WM ca h ad σ)[3]? = some (ad 14, .inl (ca 0, 6, .inl (σ 14))) := rfl
theorem wm_s14 {i : Nat} {x : Int32} : (WM ca h ad σ).set 3 (ad 14, .inl (ca 0, 6, .inl (upd (σ 14) i x))) = WM ca h ad (put σ 14 i x) := rfl
theorem wm_a15 : (WM ca h ad σ)[4]? = some (ad 15, .inl (ca 0, 6, .inl (σ 15))) := rfl
theorem wm_s15 {i : Nat} {x : Int32} : (WM ca h ad σ).set 4 (ad 15, .inl (ca 0, 6, .inl (upd (σ 15) i x))) = WM ca h ad (put σ 15 i x) := rfl
theorem wm_a16 : (WM ca h ad σ)[5]? = some (ad 16, .inl (ca 0, 6, .inl (σ 16))) := rfl
theorem wm_s16 {i : Nat} {x : Int32} : (WM ca h ad σ).set 5 (ad 16, .inl (ca 0, 6, .inl (upd (σ 16) i x))) = WM ca h ad (put σ 16 i x) := rfl
theorem wm_a17 : (WM ca h ad σ)[6]? = some (ad 17, .inl (ca 0, 6, .inl (σ 17))) := rfl
theorem wm_s17 {i : Nat} {x : Int32} : (WM ca h ad σ).set 6 (ad 17, .inl (ca 0, 6, .inl (upd (σ 17) i x))) = WM ca h ad (put σ 17 i x) := rfl
theorem wm_a18 : (WM ca h ad σ)[7]? = some (ad 18, .inl (ca 1, 6, .inl (σ 18))) := rfl
theorem wm_s18 {i : Nat} {x : Int32} : (WM ca h ad σ).set 7 (ad 18, .inl (ca 1, 6, .inl (upd (σ 18) i x))) = WM ca h ad (put σ 18 i x) := rfl
theorem wm_a19 : (WM ca h ad σ)[8]? = some (ad 19, .inl (ca 0, 10, .inl (σ 19))) := rfl
theorem wm_s19 {i : Nat} {x : Int32} : (WM ca h ad σ).set 8 (ad 19, .inl (ca 0, 10, .inl (upd (σ 19) i x))) = WM ca h ad (put σ 19 i x) := rfl
theorem wm_a20 : (WM ca h ad σ)[9]? = some (ad 20, .inl (ca 0, 10, .inl (σ 20))) := rfl
theorem wm_s20 {i : Nat} {x : Int32} : (WM ca h ad σ).set 9 (ad 20, .inl (ca 0, 10, .inl (upd (σ 20) i x))) = WM ca h ad (put σ 20 i x) := rfl
theorem wm_a21 : (WM ca h ad σ)[10]? = some (ad 21, .inl (ca 0, 10, .inl (σ 21))) := rfl
theorem wm_s21 {i : Nat} {x : Int32} : (WM ca h ad σ).set 10 (ad 21, .inl (ca 0, 10, .inl (upd (σ 21) i x))) = WM ca h ad (put σ 21 i x) := rfl
theorem wm_a22 : (WM ca h ad σ)[11]? = some (ad 22, .inl (ca 0, 100, .inl (σ 22))) := rfl
theorem wm_s22 {i : Nat} {x : Int32} : (WM ca h ad σ).set 11 (ad 22, .inl (ca 0, 100, .inl (upd (σ 22) i x))) = WM ca h ad (put σ 22 i x) := rfl
theorem wm_a23 : (WM ca h ad σ)[12]? = some (ad 23, .inl (ca 0, 721, .inl (σ 23))) := rfl
theorem wm_s23 {i : Nat} {x : Int32} : (WM ca h ad σ).set 12 (ad 23, .inl (ca 0, 721, .inl (upd (σ 23) i x))) = WM ca h ad (put σ 23 i x) := rfl
theorem wm_a24 : (WM ca h ad σ)[13]? = some (ad 24, .inl (ca 0, 721, .inl (σ 24))) := rfl
theorem wm_s24 {i : Nat} {x : Int32} : (WM ca h ad σ).set 13 (ad 24, .inl (ca 0, 721, .inl (upd (σ 24) i x))) = WM ca h ad (put σ 24 i x) := rfl
theorem wm_a25 : (WM ca h ad σ)[14]? = some (ad 25, .inl (ca 0, 60, .inl (σ 25))) := rfl
theorem wm_s25 {i : Nat} {x : Int32} : (WM ca h ad σ).set 14 (ad 25, .inl (ca 0, 60, .inl (upd (σ 25) i x))) = WM ca h ad (put σ 25 i x) := rfl
theorem wm_a26 : (WM ca h ad σ)[15]? = some (ad 26, .inl (ca 0, 60, .inl (σ 26))) := rfl
theorem wm_s26 {i : Nat} {x : Int32} : (WM ca h ad σ).set 15 (ad 26, .inl (ca 0, 60, .inl (upd (σ 26) i x))) = WM ca h ad (put σ 26 i x) := rfl
theorem wm_a27 : (WM ca h ad σ)[16]? = some (ad 27, .inl (ca 0, 60, .inl (σ 27))) := rfl
theorem wm_s27 {i : Nat} {x : Int32} : (WM ca h ad σ).set 16 (ad 27, .inl (ca 0, 60, .inl (upd (σ 27) i x))) = WM ca h ad (put σ 27 i x) := rfl
theorem wm_a28 : (WM ca h ad σ)[17]? = some (ad 28, .inl (ca 0, 60, .inl (σ 28))) := rfl
theorem wm_s28 {i : Nat} {x : Int32} : (WM ca h ad σ).set 17 (ad 28, .inl (ca 0, 60, .inl (upd (σ 28) i x))) = WM ca h ad (put σ 28 i x) := rfl
theorem wm_a29 : (WM ca h ad σ)[18]? = some (ad 29, .inl (ca 0, 60, .inl (σ 29))) := rfl
theorem wm_s29 {i : Nat} {x : Int32} : (WM ca h ad σ).set 18 (ad 29, .inl (ca 0, 60, .inl (upd (σ 29) i x))) = WM ca h ad (put σ 29 i x) := rfl
theorem wm_a30 : (WM ca h ad σ)[19]? = some (ad 30, .inl (ca 0, 60, .inl (σ 30))) := rfl
theorem wm_s30 {i : Nat} {x : Int32} : (WM ca h ad σ).set 19 (ad 30, .inl (ca 0, 60, .inl (upd (σ 30) i x))) = WM ca h ad (put σ 30 i x) := rfl
theorem wm_a31 : (WM ca h ad σ)[20]? = some (ad 31, .inl (ca 0, 60, .inl (σ 31))) := rfl
theorem wm_s31 {i : Nat} {x : Int32} : (WM ca h ad σ).set 20 (ad 31, .inl (ca 0, 60, .inl (upd (σ 31) i x))) = WM ca h ad (put σ 31 i x) := rfl
theorem wm_a32 : (WM ca h ad σ)[21]? = some (ad 32, .inl (ca 0, 60, .inl (σ 32))) := rfl
theorem wm_s32 {i : Nat} {x : Int32} : (WM ca h ad σ).set 21 (ad 32, .inl (ca 0, 60, .inl (upd (σ 32) i x))) = WM ca h ad (put σ 32 i x) := rfl
theorem wm_a33 : (WM ca h ad σ)[22]? = some (ad 33, .inl (ca 1, 60, .inl (σ 33))) := rfl
theorem wm_s33 {i : Nat} {x : Int32} : (WM ca h ad σ).set 22 (ad 33, .inl (ca 1, 60, .inl (upd (σ 33) i x))) = WM ca h ad (put σ 33 i x) := rfl
theorem wm_a34 : (WM ca h ad σ)[23]? = some (ad 34, .inl (ca 1, 60, .inl (σ 34))) := rfl
theorem wm_s34 {i : Nat} {x : Int32} : (WM ca h ad σ).set 23 (ad 34, .inl (ca 1, 60, .inl (upd (σ 34) i x))) = WM ca h ad (put σ 34 i x) := rfl
theorem wm_a35 : (WM ca h ad σ)[24]? = some (ad 35, .inl (ca 0, 20, .inl (σ 35))) := rfl
theorem wm_s35 {i : Nat} {x : Int32} : (WM ca h ad σ).set 24 (ad 35, .inl (ca 0, 20, .inl (upd (σ 35) i x))) = WM ca h ad (put σ 35 i x) := rfl
theorem wm_a36 : (WM ca h ad σ)[25]? = some (ad 36, .inl (ca 0, 20, .inl (σ 36))) := rfl
theorem wm_s36 {i : Nat} {x : Int32} : (WM ca h ad σ).set 25 (ad 36, .inl (ca 0, 20, .inl (upd (σ 36) i x))) = WM ca h ad (put σ 36 i x) := rfl
theorem wm_a37 : (WM ca h ad σ)[26]? = some (ad 37, .inl (ca 0, 20, .inl (σ 37))) := rfl
theorem wm_s37 {i : Nat} {x : Int32} : (WM ca h ad σ).set 26 (ad 37, .inl (ca 0, 20, .inl (upd (σ 37) i x))) = WM ca h ad (put σ 37 i x) := rfl
theorem wm_a38 : (WM ca h ad σ)[27]? = some (ad 38, .inl (ca 0, 20, .inl (σ 38))) := rfl
theorem wm_s38 {i : Nat} {x : Int32} : (WM ca h ad σ).set 27 (ad 38, .inl (ca 0, 20, .inl (upd (σ 38) i x))) = WM ca h ad (put σ 38 i x) := rfl
theorem wm_a39 : (WM ca h ad σ)[28]? = some (ad 39, .inl (ca 0, 20, .inl (σ 39))) := rfl
theorem wm_s39 {i : Nat} {x : Int32} : (WM ca h ad σ).set 28 (ad 39, .inl (ca 0, 20, .inl (upd (σ 39) i x))) = WM ca h ad (put σ 39 i x) := rfl
theorem wm_a40 : (WM ca h ad σ)[29]? = some (ad 40, .inl (ca 0, 20, .inl (σ 40))) := rfl
theorem wm_s40 {i : Nat} {x : Int32} : (WM ca h ad σ).set 29 (ad 40, .inl (ca 0, 20, .inl (upd (σ 40) i x))) = WM ca h ad (put σ 40 i x) := rfl
theorem wm_a41 : (WM ca h ad σ)[30]? = some (ad 41, .inl (ca 0, 20, .inl (σ 41))) := rfl
theorem wm_s41 {i : Nat} {x : Int32} : (WM ca h ad σ).set 30 (ad 41, .inl (ca 0, 20, .inl (upd (σ 41) i x))) = WM ca h ad (put σ 41 i x) := rfl
theorem wm_a42 : (WM ca h ad σ)[31]? = some (ad 42, .inl (ca 0, 20, .inl (σ 42))) := rfl
theorem wm_s42 {i : Nat} {x : Int32} : (WM ca h ad σ).set 31 (ad 42, .inl (ca 0, 20, .inl (upd (σ 42) i x))) = WM ca h ad (put σ 42 i x) := rfl
theorem wm_a43 : (WM ca h ad σ)[32]? = some (ad 43, .inl (ca 0, 20, .inl (σ 43))) := rfl
theorem wm_s43 {i : Nat} {x : Int32} : (WM ca h ad σ).set 32 (ad 43, .inl (ca 0, 20, .inl (upd (σ 43) i x))) = WM ca h ad (put σ 43 i x) := rfl
theorem wm_a44 : (WM ca h ad σ)[33]? = some (ad 44, .inl (ca 0, 6, .inl (σ 44))) := rfl
theorem wm_s44 {i : Nat} {x : Int32} : (WM ca h ad σ).set 33 (ad 44, .inl (ca 0, 6, .inl (upd (σ 44) i x))) = WM ca h ad (put σ 44 i x) := rfl
theorem wm_a45 : (WM ca h ad σ)[34]? = some (ad 45, .inl (ca 0, 20, .inl (σ 45))) := rfl
theorem wm_s45 {i : Nat} {x : Int32} : (WM ca h ad σ).set 34 (ad 45, .inl (ca 0, 20, .inl (upd (σ 45) i x))) = WM ca h ad (put σ 45 i x) := rfl
theorem wm_a46 : (WM ca h ad σ)[35]? = some (ad 46, .inl (ca 0, 6, .inl (σ 46))) := rfl
theorem wm_s46 {i : Nat} {x : Int32} : (WM ca h ad σ).set 35 (ad 46, .inl (ca 0, 6, .inl (upd (σ 46) i x))) = WM ca h ad (put σ 46 i x) := rfl
theorem wm_a47 : (WM ca h ad σ)[36]? = some (ad 47, .inl (ca 0, 8, .inl (σ 47))) := rfl
theorem wm_s47 {i : Nat} {x : Int32} : (WM ca h ad σ).set 36 (ad 47, .inl (ca 0, 8, .inl (upd (σ 47) i x))) = WM ca h ad (put σ 47 i x) := rfl
theorem wm_a48 : (WM ca h ad σ)[37]? = some (ad 48, .inl (ca 0, 8, .inl (σ 48))) := rfl
theorem wm_s48 {i : Nat} {x : Int32} : (WM ca h ad σ).set 37 (ad 48, .inl (ca 0, 8, .inl (upd (σ 48) i x))) = WM ca h ad (put σ 48 i x) := rfl
theorem wm_p1 {x : Int32} : (WM ca h ad σ).set 0 (h, .inr (9, (fsM ad σ).set 1 (.int x))) = WM ca h ad (put σ 1 0 x) := rfl
theorem wm_p2 {x : Int32} : (WM ca h ad σ).set 0 (h, .inr (9, (fsM ad σ).set 2 (.int x))) = WM ca h ad (put σ 2 0 x) := rfl
theorem wm_p3 {x : Int32} : (WM ca h ad σ).set 0 (h, .inr (9, (fsM ad σ).set 3 (.int x))) = WM ca h ad (put σ 3 0 x) := rfl
theorem wm_p4 {x : Int32} : (WM ca h ad σ).set 0 (h, .inr (9, (fsM ad σ).set 4 (.int x))) = WM ca h ad (put σ 4 0 x) := rfl
theorem wm_p5 {x : Int32} : (WM ca h ad σ).set 0 (h, .inr (9, (fsM ad σ).set 5 (.int x))) = WM ca h ad (put σ 5 0 x) := rfl
theorem wm_p6 {x : Int32} : (WM ca h ad σ).set 0 (h, .inr (9, (fsM ad σ).set 6 (.int x))) = WM ca h ad (put σ 6 0 x) := rfl
theorem wm_p7 {x : Int32} : (WM ca h ad σ).set 0 (h, .inr (9, (fsM ad σ).set 7 (.int x))) = WM ca h ad (put σ 7 0 x) := rfl
theorem wm_p8 {x : Int32} : (WM ca h ad σ).set 0 (h, .inr (9, (fsM ad σ).set 8 (.int x))) = WM ca h ad (put σ 8 0 x) := rfl
theorem wm_p9 {x : Int32} : (WM ca h ad σ).set 0 (h, .inr (9, (fsM ad σ).set 9 (.int x))) = WM ca h ad (put σ 9 0 x) := rfl
theorem wm_p10 {x : Int32} : (WM ca h ad σ).set 0 (h, .inr (9, (fsM ad σ).set 10 (.int x))) = WM ca h ad (put σ 10 0 x) := rfl
theorem wm_p11 {x : Int32} : (WM ca h ad σ).set 0 (h, .inr (9, (fsM ad σ).set 11 (.int x))) = WM ca h ad (put σ 11 0 x) := rfl
theorem wm_p12 {x : Int32} : (WM ca h ad σ).set 0 (h, .inr (9, (fsM ad σ).set 12 (.int x))) = WM ca h ad (put σ 12 0 x) := rfl
theorem wm_p49 {x : Int32} : (WM ca h ad σ).set 0 (h, .inr (9, (fsM ad σ).set 49 (.int x))) = WM ca h ad (put σ 49 0 x) := rfl
theorem wm_p50 {x : Int32} : (WM ca h ad σ).set 0 (h, .inr (9, (fsM ad σ).set 50 (.int x))) = WM ca h ad (put σ 50 0 x) := rfl
end WMS
/-- what holds of the reference between calls -/
def IR (σ : St) : Prop := (0 ≤ (σ 1 0).toInt ∧ (σ 1 0).toInt ≤ 720) ∧ (0 ≤ (σ 2 0).toInt ∧ (σ 2 0).toInt ≤ 6) ∧ (0 ≤ (σ 3 0).toInt ∧ (σ 3 0).toInt ≤ 10) ∧ (0 ≤ (σ 4 0).toInt ∧ (σ 4 0).toInt ≤ 10) ∧ (0 ≤ (σ 5 0).toInt ∧ (σ 5 0).toInt ≤ 60) ∧ (0 ≤ (σ 6 0).toInt ∧ (σ 6 0).toInt ≤ 20) ∧ (∀ k : Nat, 0 ≤ (σ 13 k).toInt ∧ (σ 13 k).toInt ≤ (σ 14 k).toInt ∧ (σ 14 k).toInt ≤ 100000) ∧ (∀ k : Nat, 0 ≤ (σ 23 k).toInt ∧ (σ 23 k).toInt < 10) ∧ (∀ k : Nat, 0 ≤ (σ 24 k).toInt ∧ (σ 24 k).toInt < 10) ∧ (∀ k : Nat, σ 25 k = 1 → 0 ≤ (σ 26 k).toInt ∧ (σ 26 k).toInt < 10) ∧ (∀ k : Nat, 0 ≤ (σ 35 k).toInt ∧ (σ 35 k).toInt < 10) ∧ (∀ k : Nat, 0 ≤ (σ 36 k).toInt ∧ (σ 36 k).toInt < 3) ∧ (∀ k : Nat, 0 ≤ (σ 37 k).toInt ∧ (σ 37 k).toInt ≤ 100) ∧ (0 ≤ (σ 49 0).toInt ∧ 0 ≤ (σ 50 0).toInt ∧ (σ 49 0).toInt * (σ 50 0).toInt ≤ 4) ∧ (∀ k : Nat, 0 ≤ (σ 44 k).toInt ∧ (σ 44 k).toInt ≤ 100000)
theorem ir_1 {σ : St} (h : IR σ) : 0 ≤ (σ 1 0).toInt ∧ (σ 1 0).toInt ≤ ((720 : Nat) : Int) := h.1
theorem ir_2 {σ : St} (h : IR σ) : 0 ≤ (σ 2 0).toInt ∧ (σ 2 0).toInt ≤ ((6 : Nat) : Int) := h.2.1
theorem ir_3 {σ : St} (h : IR σ) : 0 ≤ (σ 3 0).toInt ∧ (σ 3 0).toInt ≤ ((10 : Nat) : Int) := h.2.2.1
theorem ir_4 {σ : St} (h : IR σ) : 0 ≤ (σ 4 0).toInt ∧ (σ 4 0).toInt ≤ ((10 : Nat) : Int) := h.2.2.2.1
theorem ir_5 {σ : St} (h : IR σ) : 0 ≤ (σ 5 0).toInt ∧ (σ 5 0).toInt ≤ ((60 : Nat) : Int) := h.2.2.2.2.1
theorem ir_6 {σ : St} (h : IR σ) : 0 ≤ (σ 6 0).toInt ∧ (σ 6 0).toInt ≤ ((20 : Nat) : Int) := h.2.2.2.2.2.1
theorem ir_13 {σ : St} (h : IR σ) (k : Nat) : 0 ≤ (σ 13 k).toInt ∧ (σ 13 k).toInt ≤ (σ 14 k).toInt ∧ (σ 14 k).toInt ≤ 100000 := h.2.2.2.2.2.2.1 k
theorem ir_23 {σ : St} (h : IR σ) (k : Nat) : 0 ≤ (σ 23 k).toInt ∧ (σ 23 k).toInt < 10 := h.2.2.2.2.2.2.2.1 k
theorem ir_24 {σ : St} (h : IR σ) (k : Nat) : 0 ≤ (σ 24 k).toInt ∧ (σ 24 k).toInt < 10 := h.2.2.2.2.2.2.2.2.1 k
theorem ir_26 {σ : St} (h : IR σ) {k : Nat} (h1 : σ 25 k = 1) : 0 ≤ (σ 26 k).toInt ∧ (σ 26 k).toInt < 10 := h.2.2.2.2.2.2.2.2.2.1 k h1
theorem ir_35 {σ : St} (h : IR σ) (k : Nat) : 0 ≤ (σ 35 k).toInt ∧ (σ 35 k).toInt < 10 := h.2.2.2.2.2.2.2.2.2.2.1 k
theorem ir_36 {σ : St} (h : IR σ) (k : Nat) : 0 ≤ (σ 36 k).toInt ∧ (σ 36 k).toInt < 3 := h.2.2.2.2.2.2.2.2.2.2.2.1 k
theorem ir_37 {σ : St} (h : IR σ) (k : Nat) : 0 ≤ (σ 37 k).toInt ∧ (σ 37 k).toInt ≤ 100 := h.2.2.2.2.2.2.2.2.2.2.2.2.1 k
theorem ir_49 {σ : St} (h : IR σ) : 0 ≤ (σ 49 0).toInt ∧ 0 ≤ (σ 50 0).toInt ∧ (σ 49 0).toInt * (σ 50 0).toInt ≤ 4 := h.2.2.2.2.2.2.2.2.2.2.2.2.2.1
theorem ir_44 {σ : St} (h : IR σ) (k : Nat) : 0 ≤ (σ 44 k).toInt ∧ (σ 44 k).toInt ≤ 100000 := h.2.2.2.2.2.2.2.2.2.2.2.2.2.2 k
theorem ir_put1 {σ : St} (h : IR σ) {x : Int32} (hx : 0 ≤ x.toInt ∧ x.toInt ≤ ((720 : Nat) : Int)) : IR (put σ 1 0 x) := by
  obtain ⟨c1, c2, c3, c4, c5, c6, c13, c23, c24, c26, c35, c36, c37, c49, c44⟩ := h
  exact ⟨hx, c2, c3, c4, c5, c6, c13, c23, c24, c26, c35, c36, c37, c49, c44⟩
theorem ir_put2 {σ : St} (h : IR σ) {x : Int32} (hx : 0 ≤ x.toInt ∧ x.toInt ≤ ((6 : Nat) : Int)) : IR (put σ 2 0 x) := by
  obtain ⟨c1, c2, c3, c4, c5, c6, c13, c23, c24, c26, c35, c36, c37, c49, c44⟩ := h
  exact ⟨c1, hx, c3, c4, c5, c6, c13, c23, c24, c26, c35, c36, c37, c49, c44⟩
theorem ir_put3 {σ : St} (h : IR σ) {x : Int32} (hx : 0 ≤ x.toInt ∧ x.toInt ≤ ((10 : Nat) : Int)) : IR (put σ 3 0 x) := by
  obtain ⟨c1, c2, c3, c4, c5, c6, c13, c23, c24, c26, c35, c36, c37, c49, c44⟩ := h
  exact ⟨c1, c2, hx, c4, c5, c6, c13, c23, c24, c26, c35, c36, c37, c49, c44⟩
theorem ir_put4 {σ : St} (h : IR σ) {x : Int32} (hx : 0 ≤ x.toInt ∧ x.toInt ≤ ((10 : Nat) : Int)) : IR (put σ 4 0 x) := by
  obtain ⟨c1, c2, c3, c4, c5, c6, c13, c23, c24, c26, c35, c36, c37, c49, c44⟩ := h
  exact ⟨c1, c2, c3, hx, c5, c6, c13, c23, c24, c26, c35, c36, c37, c49, c44⟩
theorem ir_put5 {σ : St} (h : IR σ) {x : Int32} (hx : 0 ≤ x.toInt ∧ x.toInt ≤ ((60 : Nat) : Int)) : IR (put σ 5 0 x) := by
  obtain ⟨c1, c2, c3, c4, c5, c6, c13, c23, c24, c26, c35, c36, c37, c49, c44⟩ := h
  exact ⟨c1, c2, c3, c4, hx, c6, c13, c23, c24, c26, c35, c36, c37, c49, c44⟩
theorem ir_put6 {σ : St} (h : IR σ) {x : Int32} (hx : 0 ≤ x.toInt ∧ x.toInt ≤ ((20 : Nat) : Int)) : IR (put σ 6 0 x) := by
  obtain ⟨c1, c2, c3, c4, c5, c6, c13, c23, c24, c26, c35, c36, c37, c49, c44⟩ := h
  exact ⟨c1, c2, c3, c4, c5, hx, c13, c23, c24, c26, c35, c36, c37, c49, c44⟩
theorem ir_put23 {σ : St} (h : IR σ) {i : Nat} {x : Int32} (hx : 0 ≤ x.toInt ∧ x.toInt < 10) : IR (put σ 23 i x) := by
  obtain ⟨c1, c2, c3, c4, c5, c6, c13, c23, c24, c26, c35, c36, c37, c49, c44⟩ := h
  exact ⟨c1, c2, c3, c4, c5, c6, c13, (fun k => by
    show 0 ≤ (upd (σ 23) i x k).toInt ∧ (upd (σ 23) i x k).toInt < 10
    by_cases hk : k = i
    · subst hk; simp only [pk_us]; exact hx
    · simp only [pk_un hk]; exact c23 k), c24, c26, c35, c36, c37, c49, c44⟩
theorem ir_put24 {σ : St} (h : IR σ) {i : Nat} {x : Int32} (hx : 0 ≤ x.toInt ∧ x.toInt < 10) : IR (put σ 24 i x) := by
  obtain ⟨c1, c2, c3, c4, c5, c6, c13, c23, c24, c26, c35, c36, c37, c49, c44⟩ := h
  exact ⟨c1, c2, c3, c4, c5, c6, c13, c23, (fun k => by
    show 0 ≤ (upd (σ 24) i x k).toInt ∧ (upd (σ 24) i x k).toInt < 10
    by_cases hk : k = i
    · subst hk; simp only [pk_us]; exact hx
    · simp only [pk_un hk]; exact c24 k), c26, c35, c36, c37, c49, c44⟩
theorem ir_put35 {σ : St} (h : IR σ) {i : Nat} {x : Int32} (hx : 0 ≤ x.toInt ∧ x.toInt < 10) : IR (put σ 35 i x) := by
  obtain ⟨c1, c2, c3, c4, c5, c6, c13, c23, c24, c26, c35, c36, c37, c49, c44⟩ := h
  exact ⟨c1, c2, c3, c4, c5, c6, c13, c23, c24, c26, (fun k => by
    show 0 ≤ (upd (σ 35) i x k).toInt ∧ (upd (σ 35) i x k).toInt < 10
    by_cases hk : k = i
    · subst hk; simp only [pk_us]; exact hx
    · simp only [pk_un hk]; exact c35 k), c36, c37, c49, c44⟩
theorem ir_put36 {σ : St} (h : IR σ) {i : Nat} {x : Int32} (hx : 0 ≤ x.toInt ∧ x.toInt < 3) : IR (put σ 36 i x) := by
  obtain ⟨c1, c2, c3, c4, c5, c6, c13, c23, c24, c26, c35, c36, c37, c49, c44⟩ := h
  exact ⟨c1, c2, c3, c4, c5, c6, c13, c23, c24, c26, c35, (fun k => by
    show 0 ≤ (upd (σ 36) i x k).toInt ∧ (upd (σ 36) i x k).toInt < 3
    by_cases hk : k = i
    · subst hk; simp only [pk_us]; exact hx
    · simp only [pk_un hk]; exact c36 k), c37, c49, c44⟩
theorem ir_put37 {σ : St} (h : IR σ) {i : Nat} {x : Int32} (hx : 0 ≤ x.toInt ∧ x.toInt ≤ 100) : IR (put σ 37 i x) := by
  obtain ⟨c1, c2, c3, c4, c5, c6, c13, c23, c24, c26, c35, c36, c37, c49, c44⟩ := h
  exact ⟨c1, c2, c3, c4, c5, c6, c13, c23, c24, c26, c35, c36, (fun k => by
    show 0 ≤ (upd (σ 37) i x k).toInt ∧ (upd (σ 37) i x k).toInt ≤ 100
    by_cases hk : k = i
    · subst hk; simp only [pk_us]; exact hx
    · simp only [pk_un hk]; exact c37 k), c49, c44⟩
theorem ir_put44 {σ : St} (h : IR σ) {i : Nat} {x : Int32} (hx : 0 ≤ x.toInt ∧ x.toInt ≤ 100000) : IR (put σ 44 i x) := by
  obtain ⟨c1, c2, c3, c4, c5, c6, c13, c23, c24, c26, c35, c36, c37, c49, c44⟩ := h
  exact ⟨c1, c2, c3, c4, c5, c6, c13, c23, c24, c26, c35, c36, c37, c49, (fun k => by
    show 0 ≤ (upd (σ 44) i x k).toInt ∧ (upd (σ 44) i x k).toInt ≤ 100000
    by_cases hk : k = i
    · subst hk; simp only [pk_us]; exact hx
    · simp only [pk_un hk]; exact c44 k)⟩
theorem ir_put13 {σ : St} (h : IR σ) {i : Nat} {x : Int32} (hx : 0 ≤ x.toInt ∧ x.toInt ≤ (σ 14 i).toInt) : IR (put σ 13 i x) := by
  obtain ⟨c1, c2, c3, c4, c5, c6, c13, c23, c24, c26, c35, c36, c37, c49, c44⟩ := h
  exact ⟨c1, c2, c3, c4, c5, c6, (fun k => by
    show 0 ≤ (upd (σ 13) i x k).toInt ∧ (upd (σ 13) i x k).toInt ≤ (σ 14 k).toInt ∧ (σ 14 k).toInt ≤ 100000
    by_cases hk : k = i
    · subst hk; simp only [pk_us]; exact ⟨hx.1, hx.2, (c13 k).2.2⟩
    · simp only [pk_un hk]; exact c13 k), c23, c24, c26, c35, c36, c37, c49, c44⟩
theorem ir_putpiece {σ : St} (h : IR σ) {i : Nat} {g f : Int32} (hx : 0 ≤ g.toInt ∧ g.toInt ≤ f.toInt ∧ f.toInt ≤ 100000) : IR (put (put σ 13 i g) 14 i f) := by
  obtain ⟨c1, c2, c3, c4, c5, c6, c13, c23, c24, c26, c35, c36, c37, c49, c44⟩ := h
  exact ⟨c1, c2, c3, c4, c5, c6, (fun k => by
    show 0 ≤ (upd (σ 13) i g k).toInt ∧ (upd (σ 13) i g k).toInt ≤ (upd (σ 14) i f k).toInt ∧ (upd (σ 14) i f k).toInt ≤ 100000
    by_cases hk : k = i
    · subst hk; simp only [pk_us]; exact hx
    · simp only [pk_un hk]; exact c13 k), c23, c24, c26, c35, c36, c37, c49, c44⟩
theorem ir_put26 {σ : St} (h : IR σ) {i : Nat} {x : Int32} (hx : ¬ σ 25 i = 1) : IR (put σ 26 i x) := by
  obtain ⟨c1, c2, c3, c4, c5, c6, c13, c23, c24, c26, c35, c36, c37, c49, c44⟩ := h
  exact ⟨c1, c2, c3, c4, c5, c6, c13, c23, c24, (fun k hk1 => by
    have hk1 : σ 25 k = 1 := hk1
    show 0 ≤ (upd (σ 26) i x k).toInt ∧ (upd (σ 26) i x k).toInt < 10
    by_cases hk : k = i
    · subst hk; exact absurd hk1 hx
    · simp only [pk_un hk]; exact c26 k hk1), c35, c36, c37, c49, c44⟩
theorem ir_putright {σ : St} (h : IR σ) {i : Nat} {t x : Int32} (hx : t = 1 → 0 ≤ x.toInt ∧ x.toInt < 10) : IR (put (put σ 25 i t) 26 i x) := by
  obtain ⟨c1, c2, c3, c4, c5, c6, c13, c23, c24, c26, c35, c36, c37, c49, c44⟩ := h
  exact ⟨c1, c2, c3, c4, c5, c6, c13, c23, c24, (fun k hk1 => by
    have hk1 : upd (σ 25) i t k = 1 := hk1
    show 0 ≤ (upd (σ 26) i x k).toInt ∧ (upd (σ 26) i x k).toInt < 10
    by_cases hk : k = i
    · subst hk; simp only [pk_us] at hk1 ⊢; exact hx hk1
    · simp only [pk_un hk] at hk1 ⊢; exact c26 k hk1), c35, c36, c37, c49, c44⟩
theorem ir_putplan {σ : St} (h : IR σ) {x y : Int32} (hx : 0 ≤ x.toInt ∧ 0 ≤ y.toInt ∧ x.toInt * y.toInt ≤ 4) : IR (put (put σ 49 0 x) 50 0 y) := by
  obtain ⟨c1, c2, c3, c4, c5, c6, c13, c23, c24, c26, c35, c36, c37, c49, c44⟩ := h
  exact ⟨c1, c2, c3, c4, c5, c6, c13, c23, c24, c26, c35, c36, c37, hx, c44⟩
theorem inc_ok {x n : Int32} {N : Nat} (h : 0 ≤ x.toInt ∧ x.toInt ≤ (N : Int)) (c : ¬ x = n) (hn : n.toInt = (N : Int)) (hN : N < 1000000) : 0 ≤ (x + 1).toInt ∧ (x + 1).toInt ≤ (N : Int) := by
  rw [← Int32.toInt_inj] at c
  have e1 : (1 : Int32).toInt = 1 := by decide
  rw [Int32.toInt_add, e1, Int.bmod_eq_of_le (by omega) (by omega)]
  omega
theorem ix_cnt {x n : Int32} {N : Nat} (h : 0 ≤ x.toInt ∧ x.toInt ≤ (N : Int)) (c : ¬ x = n) (hn : n.toInt = (N : Int)) : vp_in x N := by
  rw [← Int32.toInt_inj] at c
  rw [vp_in_iff]
  omega
theorem add_ti {x y : Int32} (h1 : -2147483648 ≤ x.toInt + y.toInt) (h2 : x.toInt + y.toInt < 2147483648) : (x + y).toInt = x.toInt + y.toInt := by
  rw [Int32.toInt_add]
  exact Int.bmod_eq_of_le (by omega) (by omega)
theorem sub_ti {x y : Int32} (h1 : -2147483648 ≤ x.toInt - y.toInt) (h2 : x.toInt - y.toInt < 2147483648) : (x - y).toInt = x.toInt - y.toInt := by
  rw [Int32.toInt_sub]
  exact Int.bmod_eq_of_le (by omega) (by omega)
theorem mul_ti {x y : Int32} (h1 : -2147483648 ≤ x.toInt * y.toInt) (h2 : x.toInt * y.toInt < 2147483648) : (x * y).toInt = x.toInt * y.toInt := by
  rw [Int32.toInt_mul]
  exact Int.bmod_eq_of_le (by omega) (by omega)
theorem ix_rate {x y : Int32} (hx : vp_in x 10) (hy : vp_in y 10) : vp_in (10 * x + y) 100 := by
  rw [vp_in_iff] at hx hy ⊢
  have e10 : (10 : Int32).toInt = 10 := by decide
  have h1 : ((10 : Int32) * x).toInt = 10 * x.toInt := by rw [mul_ti (by rw [e10]; omega) (by rw [e10]; omega), e10]
  rw [add_ti (by omega) (by omega), h1]
  omega
theorem ix_day {x n : Int32} {N : Nat} (h1 : 0 ≤ x) (h2 : x ≤ n) (hn : n.toInt = (N : Int)) : vp_in x (N + 1) := by
  rw [Int32.le_iff_toInt_le] at h1 h2
  rw [show (0 : Int32).toInt = 0 from by decide] at h1
  rw [vp_in_iff]
  omega
theorem ix_ref {x : Int32} (h1 : 10 < x) (h2 : x < 17) : vp_in (x - 10) 7 := by
  rw [Int32.lt_iff_toInt_lt] at h1 h2
  rw [show (10 : Int32).toInt = 10 from by decide] at h1
  rw [show (17 : Int32).toInt = 17 from by decide] at h2
  rw [vp_in_iff, sub_ti (by rw [show (10 : Int32).toInt = 10 from by decide]; omega) (by rw [show (10 : Int32).toInt = 10 from by decide]; omega), show (10 : Int32).toInt = 10 from by decide]
  omega
theorem vp_10 {x : Int32} (h : vp_in x 10) : 0 ≤ x.toInt ∧ x.toInt < 10 := vp_in_iff.mp h

theorem lt_of_not_le0 {x y : Int32} (h : ¬ x ≤ y) : y < x := by
  rw [Int32.le_iff_toInt_le] at h
  rw [Int32.lt_iff_toInt_lt]
  omega
theorem pc_ok {g f n : Int32} (h1 : 0 ≤ g) (h2 : g ≤ f) (h3 : f ≤ n) (hn : n.toInt = 100000) : 0 ≤ g.toInt ∧ g.toInt ≤ f.toInt ∧ f.toInt ≤ 100000 := by
  rw [Int32.le_iff_toInt_le] at h1 h2 h3
  rw [show (0 : Int32).toInt = 0 from by decide] at h1
  omega
theorem not_lt0 {x y : Int32} (h : ¬ x < y) : y ≤ x := by
  rw [Int32.lt_iff_toInt_lt] at h
  rw [Int32.le_iff_toInt_le]
  omega
theorem mn_ok {x : Int32} (h1 : 1 ≤ x) (h2 : x ≤ 100) : 0 ≤ x.toInt ∧ x.toInt ≤ 100 := by
  rw [Int32.le_iff_toInt_le] at h1 h2
  rw [show (1 : Int32).toInt = 1 from by decide] at h1
  rw [show (100 : Int32).toInt = 100 from by decide] at h2
  omega
theorem lg_pos {x : Int64} (h : ¬ lg_cmp x 0 ≤ 0) : ¬ x = 0 := fun e => h (by subst e; decide)
theorem cut_ok {g : Int32} {b : Int} (h0 : 0 ≤ g.toInt) (hb : g.toInt ≤ b) (h1 : b ≤ 100000) : 0 ≤ (g - (if (0 : Int32) < (g - 100) then (g - 100) else 0)).toInt ∧ (g - (if (0 : Int32) < (g - 100) then (g - 100) else 0)).toInt ≤ b := by
  have e100 : (100 : Int32).toInt = 100 := by decide
  have e0 : (0 : Int32).toInt = 0 := by decide
  have ed : (g - 100).toInt = g.toInt - 100 := by rw [sub_ti (by rw [e100]; omega) (by rw [e100]; omega), e100]
  split
  · rename_i hlt
    rw [Int32.lt_iff_toInt_lt, e0] at hlt
    rw [sub_ti (by omega) (by omega)]
    omega
  · rw [sub_ti (by rw [e0]; omega) (by rw [e0]; omega), e0]
    omega

theorem inc60 {x : Int32} (h : vp_in x 60) : 0 ≤ (x + 1).toInt ∧ (x + 1).toInt ≤ ((60 : Nat) : Int) := by
  rw [vp_in_iff] at h
  have e1 : (1 : Int32).toInt = 1 := by decide
  rw [add_ti (by rw [e1]; omega) (by rw [e1]; omega), e1]
  omega

