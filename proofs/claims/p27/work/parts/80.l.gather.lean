/-! the herds on a piece are gathered, and a day there -/
def dAll (u w : Nat → Int32) (c : Int32) (n : Nat) : Int32 := Sm (fun h => if u h = c then w h else 0) n
def dLeft (u w : Nat → Int32) (c : Int32) (n : Nat) (lack all : Int32) : Int32 := lack - Sm (fun h => if u h = c then dQ lack all (w h) else 0) n
def dAhead (u w : Nat → Int32) (c : Int32) (n : Nat) (lack all : Int32) (h : Nat) : Int32 := Sm (fun o => if u o = c then (if dR lack all (w h) < dR lack all (w o) then 1 else if dR lack all (w o) = dR lack all (w h) then (if h ≤ o then 0 else 1) else 0) else 0) n
def dShare (u w : Nat → Int32) (c : Int32) (n : Nat) (lack all : Int32) (h : Nat) : Int32 := if all ≤ 0 then 0 else dQ lack all (w h) + (if dLeft u w c n lack all ≤ dAhead u w c n lack all h then 0 else 1)
def dEat (all grown : Int32) : Int32 := if all < grown then all else grown
def dHun (u w : Nat → Int32) (c : Int32) (n : Nat) (water grown : Int32) (h : Nat) : Int32 := dShare u w c n (dAll u w c n - dEat (dAll u w c n) grown) (dAll u w c n) h + (if water = 0 then w h else 0)
def dGrown (all g full rain rate : Int32) : Int32 := s_X3_grow (if rain < 8 then g else (if 0 < (g - (all / 100)) then (g - (all / 100)) else 0)) full rate
def GS (u w : Nat → Int32) (c : Int32) (n : Nat) (τ : St) (s : Nat) (num : Nat → Nat) : Prop := s ≤ n ∧ τ 304 0 = nI s ∧ (∀ i, i < s → num i < n ∧ u (num i) = c ∧ τ 300 i = nI (num i) ∧ τ 301 i = w (num i)) ∧ (∀ i j, i < j → j < s → num i < num j) ∧ (∀ f : Nat → Int, sI (fun i => f (num i)) s = sI (fun h => if u h = c then f h else 0) n) ∧ (∀ f : Nat → Int32, Sm (fun i => f (num i)) s = Sm (fun h => if u h = c then f h else 0) n) ∧ τ 305 0 = dAll u w c n ∧ (∀ h, h < n → u h = c → ∃ i, i < s ∧ num i = h)
theorem gather (u w : Nat → Int32) (c : Int32) (τ0 : St) (L : Nat → St → St) (hL : ∀ (k : Nat) (τ : St), k < 20 → (∀ f : Nat, f ≠ 300 → f ≠ 301 → f ≠ 302 → f ≠ 304 → f ≠ 305 → τ f = τ0 f) → L k τ = if u k = c then s_X3_add τ (nI k) (w k) else τ) (h4 : τ0 304 0 = 0) (h5 : τ0 305 0 = 0) : ∀ n : Nat, n ≤ 20 → ∃ (s : Nat) (num : Nat → Nat), GS u w c n (iter L n 0 τ0) s num ∧ (∀ i, i < s → iter L n 0 τ0 302 i = 0) ∧ (∀ f : Nat, f ≠ 300 → f ≠ 301 → f ≠ 302 → f ≠ 304 → f ≠ 305 → iter L n 0 τ0 f = τ0 f) := by
  intro n
  induction n with
  | zero =>
    intro _
    exact ⟨0, fun _ => 0, ⟨Nat.le_refl 0, h4, fun i h => absurd h (Nat.not_lt_zero i), fun i j _ h => absurd h (Nat.not_lt_zero j), fun _ => rfl, fun _ => rfl, h5, fun h hh => absurd hh (Nat.not_lt_zero h)⟩, fun i h => absurd h (Nat.not_lt_zero i), fun _ _ _ _ _ _ => rfl⟩
  | succ n ih =>
    intro hn
    obtain ⟨s, num, ⟨g1, g2, g3, g4, g5, g6, g7, g8⟩, z2, fr⟩ := ih (by omega)
    rw [iter_snoc, Nat.zero_add]
    generalize iter L n 0 τ0 = t at g2 g3 g7 z2 fr ⊢
    rw [hL n t (by omega) fr]
    by_cases hu : u n = c
    · rw [if_pos hu]
      have e20 : ¬ (20 : Int32) ≤ t 304 0 := by
        rw [g2, Int32.le_iff_toInt_le, nI_toInt (by omega), show (20 : Int32).toInt = 20 by decide]
        omega
      have ea : s_X3_add t (nI n) (w n) = put (put (put (put (put t 300 s (nI n)) 301 s (w n)) 302 s 0) 305 0 (t 305 0 + w n)) 304 0 (t 304 0 + 1) := by
        unfold s_X3_add
        rw [if_neg e20, g2, nI_clamp (by omega)]
      rw [ea]
      have ns : ∀ i, i < s → (if i = s then n else num i) = num i := fun i hi => if_neg (by omega)
      refine ⟨s + 1, fun i => if i = s then n else num i, ⟨by omega, ?_, ?_, ?_, ?_, ?_, ?_, ?_⟩, ?_, ?_⟩
      · show upd (t 304) 0 (t 304 0 + 1) 0 = nI (s + 1)
        rw [pk_us, g2, ← Int32.toInt_inj, nI_toInt (by omega), add_ti (by rw [nI_toInt (by omega), show (1 : Int32).toInt = 1 by decide]; omega) (by rw [nI_toInt (by omega), show (1 : Int32).toInt = 1 by decide]; omega), nI_toInt (by omega), show (1 : Int32).toInt = 1 by decide]
        omega
      · intro i hi
        show (if i = s then n else num i) < n + 1 ∧ u (if i = s then n else num i) = c ∧ upd (t 300) s (nI n) i = nI (if i = s then n else num i) ∧ upd (t 301) s (w n) i = w (if i = s then n else num i)
        by_cases hq : i = s
        · rw [if_pos hq, hq, pk_us, pk_us]
          exact ⟨by omega, hu, rfl, rfl⟩
        · rw [if_neg hq, pk_un hq, pk_un hq]
          have a := g3 i (by omega)
          exact ⟨by omega, a.2⟩
      · intro i j hij hj
        show (if i = s then n else num i) < (if j = s then n else num j)
        rw [if_neg (show i ≠ s by omega)]
        by_cases hq : j = s
        · rw [if_pos hq]
          exact (g3 i (by omega)).1
        · rw [if_neg hq]
          exact g4 i j hij (by omega)
      · intro f
        show sI (fun i => f (if i = s then n else num i)) s + f (if s = s then n else num s) = sI (fun h => if u h = c then f h else 0) n + (if u n = c then f n else 0)
        rw [if_pos rfl, if_pos hu, ← g5 f]
        rw [sI_ext (g := fun i => f (num i)) (fun i hi => by rw [ns i hi])]
      · intro f
        show Sm (fun i => f (if i = s then n else num i)) s + f (if s = s then n else num s) = Sm (fun h => if u h = c then f h else 0) n + (if u n = c then f n else 0)
        rw [if_pos rfl, if_pos hu, ← g6 f]
        rw [sm_ext (g := fun i => f (num i)) (fun i hi => by rw [ns i hi])]
      · show upd (t 305) 0 (t 305 0 + w n) 0 = Sm (fun h => if u h = c then w h else 0) n + (if u n = c then w n else 0)
        rw [pk_us, if_pos hu, g7]
        rfl
      · intro h hh hc
        by_cases hq : h = n
        · exact ⟨s, by omega, (if_pos rfl).trans hq.symm⟩
        · obtain ⟨i, i1, i2⟩ := g8 h (by omega) hc
          exact ⟨i, by omega, (ns i i1).trans i2⟩
      · intro i hi
        show upd (t 302) s 0 i = 0
        by_cases hq : i = s
        · rw [hq, pk_us]
        · rw [pk_un hq]
          exact z2 i (by omega)
      · intro f a b d e k
        exact (put_fr e).trans ((put_fr k).trans ((put_fr d).trans ((put_fr b).trans ((put_fr a).trans (fr f a b d e k)))))
    · rw [if_neg hu]
      refine ⟨s, num, ⟨by omega, g2, fun i hi => ?_, g4, fun f => ?_, fun f => ?_, ?_, fun h hh hc => ?_⟩, z2, fr⟩
      · have a := g3 i hi
        exact ⟨by omega, a.2⟩
      · show _ = sI (fun h => if u h = c then f h else 0) n + (if u n = c then f n else 0)
        rw [if_neg hu, ← g5 f]
        omega
      · show _ = Sm (fun h => if u h = c then f h else 0) n + (if u n = c then f n else 0)
        rw [if_neg hu, ← g6 f, Int32.add_zero]
      · show t 305 0 = Sm (fun h => if u h = c then w h else 0) n + (if u n = c then w n else 0)
        rw [if_neg hu, g7, Int32.add_zero]
        rfl
      · by_cases hq : h = n
        · rw [hq] at hc
          exact absurd hc hu
        · exact g8 h (by omega) hc
theorem itC_stop {α : Type} {L : Nat → α → Option α} {n k : Nat} {s : α} (h : L k s = none) : iterC L n k s = s := by
  cases n with
  | zero => rfl
  | succ n =>
    show iterC1 L n k s (L k s) = s
    rw [h]
    rfl
theorem dall_bd {u w : Nat → Int32} {c : Int32} {n : Nat} (hn : n ≤ 20) (hw : ∀ h, h < n → 0 ≤ (w h).toInt ∧ (w h).toInt ≤ 4500) : 0 ≤ (dAll u w c n).toInt ∧ (dAll u w c n).toInt ≤ 90000 ∧ (dAll u w c n).toInt = sI (fun h => if u h = c then (w h).toInt else 0) n := by
  have z : (0 : Int32).toInt = 0 := by decide
  have bd : ∀ k, k < n → 0 ≤ (if u k = c then w k else 0).toInt ∧ (if u k = c then w k else 0).toInt ≤ ((4500 : Nat) : Int) := by
    intro k hk
    have := hw k hk
    split
    · omega
    · rw [z]; omega
  have a := sm_bd (f := fun h => if u h = c then w h else 0) (B := 4500) (N := 20) (by decide) hn bd
  have b := sm_ti (f := fun h => if u h = c then w h else 0) (B := 4500) (N := 20) (by decide) hn bd
  unfold dAll
  refine ⟨a.1, by have := a.2; omega, b.trans (sI_ext (fun k _ => ?_))⟩
  show (if u k = c then w k else 0).toInt = _
  split
  · rfl
  · exact z
theorem sh_all {u w : Nat → Int32} {c : Int32} {n : Nat} {τ : St} {s : Nat} {num : Nat → Nat} (G : GS u w c n τ s num) (hn : n ≤ 20) (hw : ∀ h, h < n → 0 ≤ (w h).toInt ∧ (w h).toInt ≤ 4500) {lack : Int32} (hl : 0 ≤ lack.toInt ∧ lack.toInt ≤ (dAll u w c n).toInt) : (∀ f : Nat, f ≠ 302 → f ≠ 303 → s_X3_shareHunger τ lack f = τ f) ∧ ∀ i, i < s → s_X3_shareHunger τ lack 302 i = if dAll u w c n ≤ 0 then τ 302 i else dShare u w c n lack (dAll u w c n) (num i) := by
  obtain ⟨g1, g2, g3, g4, g5, g6, g7, g8⟩ := G
  obtain ⟨b1, b2, b3⟩ := dall_bd (u := u) (c := c) hn hw
  have z : (0 : Int32).toInt = 0 := by decide
  have h4 : (τ 304 0).toNatClampNeg = s := by rw [g2, nI_clamp (by omega)]
  obtain ⟨all, hall⟩ : ∃ a, dAll u w c n = a := ⟨_, rfl⟩
  rw [hall] at b1 b2 b3 g7 hl ⊢
  have eS : s_X3_shareHunger τ lack = s_X3_shareHunger_c4 (iterC (s_X3_shareHunger_l4 lack) s 0 (lack, τ)) := by
    unfold s_X3_shareHunger
    rw [h4, Nat.sub_zero]
  rw [eS]
  have eC : ∀ p : Int32 × St, s_X3_shareHunger_c4 p = (iterC s_X3_shareHunger_l72 ((p.2 304 0).toNatClampNeg) 0 p).2 := by
    intro p
    obtain ⟨v, t⟩ := p
    show s_X3_shareHunger_c72 (iterC s_X3_shareHunger_l72 ((t 304 0).toNatClampNeg - 0) 0 (v, t)) = (iterC s_X3_shareHunger_l72 (t 304 0).toNatClampNeg 0 (v, t)).2
    rw [Nat.sub_zero]
    generalize iterC s_X3_shareHunger_l72 (t 304 0).toNatClampNeg 0 (v, t) = r
    obtain ⟨a, b⟩ := r
    rfl
  rw [eC]
  by_cases ha : all ≤ 0
  · have ha2 := ha
    rw [Int32.le_iff_toInt_le, z] at ha2
    have e1 : iterC (s_X3_shareHunger_l4 lack) s 0 (lack, τ) = (lack, τ) := itC_stop (by
      unfold s_X3_shareHunger_l4
      try dsimp only
      rw [g7, if_pos ha])
    rw [e1]
    have e2 : iterC s_X3_shareHunger_l72 (τ 304 0).toNatClampNeg 0 (lack, τ) = (lack, τ) := itC_stop (by
      unfold s_X3_shareHunger_l72
      try dsimp only
      rw [if_pos]
      rw [Int32.le_iff_toInt_le, z]
      omega)
    show (∀ f : Nat, f ≠ 302 → f ≠ 303 → (iterC s_X3_shareHunger_l72 (τ 304 0).toNatClampNeg 0 (lack, τ)).2 f = τ f) ∧ ∀ i, i < s → (iterC s_X3_shareHunger_l72 (τ 304 0).toNatClampNeg 0 (lack, τ)).2 302 i = _
    rw [e2]
    exact ⟨fun _ _ _ => rfl, fun i hi => by rw [if_pos ha]⟩
  · have ha2 := ha
    rw [Int32.le_iff_toInt_le, z] at ha2
    have hA : 0 < all.toInt ∧ all.toInt ≤ 90000 := ⟨by omega, by omega⟩
    obtain ⟨s1, s2, s3⟩ := sh1 τ lack s (by rw [g7]; exact ha)
    rw [g7] at s1 s3
    obtain ⟨p, hp⟩ : ∃ p, iterC (s_X3_shareHunger_l4 lack) s 0 (lack, τ) = p := ⟨_, rfl⟩
    rw [hp] at s1 s2 s3 ⊢
    obtain ⟨v, t⟩ := p
    have hwi : ∀ i, i < s → 0 ≤ (w (num i)).toInt ∧ (w (num i)).toInt ≤ 4500 := fun i hi => hw _ (g3 i hi).1
    have D := fun i (hi : i < s) => dq_ti hl hA (hwi i hi)
    have e1 : ∀ i, i < s → τ 301 i = w (num i) := fun i hi => (g3 i hi).2.2.2
    obtain ⟨Q, hQ⟩ : ∃ Q : Nat → Int, Q = fun i => lack.toInt * (w (num i)).toInt / all.toInt := ⟨_, rfl⟩
    obtain ⟨R, hR⟩ : ∃ R : Nat → Int, R = fun i => lack.toInt * (w (num i)).toInt % all.toInt := ⟨_, rfl⟩
    have qi : ∀ i, i < s → (dQ lack all (w (num i))).toInt = Q i := fun i hi => by rw [hQ]; exact (D i hi).2.1
    have ri : ∀ i, i < s → (dR lack all (w (num i))).toInt = R i := fun i hi => by rw [hR]; exact (D i hi).2.2.1
    have Rb : ∀ i, i < s → 0 ≤ R i ∧ R i < all.toInt := fun i hi => by
      rw [hR]
      exact ⟨Int.emod_nonneg _ (by omega), Int.emod_lt_of_pos _ hA.1⟩
    have Qb : ∀ i, i < s → 0 ≤ Q i ∧ Q i ≤ 4500 := fun i hi => by
      rw [hQ]
      refine ⟨Int.ediv_nonneg (D i hi).2.2.2.1 (by omega), ?_⟩
      have m1 : lack.toInt * (w (num i)).toInt ≤ all.toInt * (w (num i)).toInt := Int.mul_le_mul_of_nonneg_right hl.2 (hwi i hi).1
      have m2 : lack.toInt * (w (num i)).toInt / all.toInt ≤ all.toInt * (w (num i)).toInt / all.toInt := Int.ediv_le_ediv hA.1 m1
      rw [Int.mul_ediv_cancel_left _ (by omega)] at m2
      have := (hwi i hi).2
      show lack.toInt * (w (num i)).toInt / all.toInt ≤ 4500
      omega
    have sumw : sI (fun i => (w (num i)).toInt) s = all.toInt := by
      rw [b3]
      exact g5 (fun h => (w h).toInt)
    have sumQR : all.toInt * sI Q s + sI R s = lack.toInt * all.toInt := by
      have L1 : sI (fun i => lack.toInt * (w (num i)).toInt) s = lack.toInt * all.toInt := by rw [sI_mul, sumw]
      have L2 : sI (fun i => all.toInt * Q i + R i) s = all.toInt * sI Q s + sI R s := (sI_plus (fun i => all.toInt * Q i) R s).trans (by rw [sI_mul])
      refine L2.symm.trans ((sI_ext (fun i _ => ?_)).trans L1)
      rw [hQ, hR]
      exact Int.mul_ediv_add_emod _ _
    have sq : (Sm (fun i => dQ lack all (τ 301 i)) s).toInt = sI Q s := by
      rw [sm_ext (g := fun i => dQ lack all (w (num i))) (fun i hi => by rw [e1 i hi])]
      rw [sm_ti (B := 4500) (N := 20) (by decide) (by omega) (fun i hi => by
        have := Qb i hi
        show 0 ≤ (dQ lack all (w (num i))).toInt ∧ (dQ lack all (w (num i))).toInt ≤ ((4500 : Nat) : Int)
        rw [qi i hi]
        omega)]
      exact sI_ext qi
    obtain ⟨left, hleft⟩ : ∃ l : Int, l = lack.toInt - sI Q s := ⟨_, rfl⟩
    have lA : left * all.toInt = sI R s := by
      rw [hleft, Int.sub_mul, Int.mul_comm (sI Q s)]
      omega
    have R0 : 0 ≤ sI R s := sI_low (fun i hi => (Rb i hi).1)
    have Rs : sI R s ≤ all.toInt * s := sI_bdd (fun i hi => by have := (Rb i hi).2; omega)
    have l0 : 0 ≤ left := by
      refine Int.not_lt.mp (fun neg => ?_)
      have : left * all.toInt ≤ (-1) * all.toInt := Int.mul_le_mul_of_nonneg_right (by omega) (by omega)
      omega
    have ls : left ≤ (s : Int) := by
      have t : left * all.toInt ≤ (s : Int) * all.toInt := by
        rw [lA, Int.mul_comm (s : Int)]
        exact Rs
      exact Int.le_of_mul_le_mul_right t hA.1
    have Q0 : 0 ≤ sI Q s := sI_low (fun i hi => (Qb i hi).1)
    have vl : v.toInt = left - ((0 : Nat) : Int) := by
      have s1 : v = lack - Sm (fun i => dQ lack all (τ 301 i)) s := s1
      have := lack.toInt_lt
      rw [s1, sub_ti (by rw [sq]; omega) (by rw [sq]; omega), sq]
      omega
    have t4 : (t 304 0).toNatClampNeg = s := by
      rw [show t 304 = τ 304 from s2 304 (by decide) (by decide)]
      exact h4
    obtain ⟨S, u1, u2, u3⟩ := sel (fun i => dQ lack all (w (num i))) R all.toInt left s (by omega) hA.1 Rb ls s 0 v t (fun _ => false) (Nat.zero_add s) vl l0 t4 (up_0 R s) (fun i hi => by
      have a := s3 i hi
      have a1 : t 302 i = dQ lack all (τ 301 i) := a.1
      have a2 : t 303 i = dR lack all (τ 301 i) := a.2
      rw [a1, a2, e1 i hi, ri i hi]
      refine ⟨?_, rfl⟩
      show _ = dQ lack all (w (num i)) + 0
      rw [Int32.add_zero]) (by
      rw [lA]
      have : sI (fun i => (t 303 i).toInt) s = sI R s := sI_ext (fun i hi => by
        have a2 : t 303 i = dR lack all (τ 301 i) := (s3 i hi).2
        rw [a2, e1 i hi, ri i hi])
      rw [this]
      have : ((0 : Nat) : Int) * all.toInt = 0 := by rw [show ((0 : Nat) : Int) = 0 from rfl, Int.zero_mul]
      omega)
    show (∀ f : Nat, f ≠ 302 → f ≠ 303 → (iterC s_X3_shareHunger_l72 (t 304 0).toNatClampNeg 0 (v, t)).2 f = τ f) ∧ ∀ i, i < s → (iterC s_X3_shareHunger_l72 (t 304 0).toNatClampNeg 0 (v, t)).2 302 i = _
    rw [t4]
    refine ⟨fun f p q => (u3 f p q).trans (s2 f p q), fun i hi => ?_⟩
    rw [if_neg ha, u2 i hi]
    unfold dShare
    rw [if_neg ha]
    have dl : (dLeft u w c n lack all).toInt = left := by
      have : dLeft u w c n lack all = v := by
        unfold dLeft
        have s1 : v = lack - Sm (fun i => dQ lack all (τ 301 i)) s := s1
        rw [s1, ← g6 (fun h => dQ lack all (w h)), sm_ext (f := fun i => dQ lack all (τ 301 i)) (g := fun i => dQ lack all (w (num i))) (fun i hi => by rw [e1 i hi])]
      rw [this, vl]
      omega
    have da : (dAhead u w c n lack all (num i)).toInt = (cn (fun o => ah R o i) s : Int) := by
      unfold dAhead
      have o1 : (1 : Int32).toInt = 1 := by decide
      rw [sm_ti (B := 1) (N := 20) (by decide) hn (fun k _ => by
        show 0 ≤ (if u k = c then (if dR lack all (w (num i)) < dR lack all (w k) then (1 : Int32) else if dR lack all (w k) = dR lack all (w (num i)) then (if num i ≤ k then 0 else 1) else 0) else 0).toInt ∧ _ ≤ ((1 : Nat) : Int)
        (repeat' split) <;> first | (rw [o1]; omega) | (rw [z]; omega)), ← cn_sI]
      rw [sI_ext (g := fun h => if u h = c then (cond (decide ((dR lack all (w (num i))).toInt < (dR lack all (w h)).toInt ∨ ((dR lack all (w h)).toInt = (dR lack all (w (num i))).toInt ∧ h < num i))) 1 0 : Int) else 0) (fun h _ => by
        show (if u h = c then (if dR lack all (w (num i)) < dR lack all (w h) then (1 : Int32) else if dR lack all (w h) = dR lack all (w (num i)) then (if num i ≤ h then 0 else 1) else 0) else 0).toInt = _
        by_cases c1 : u h = c
        · rw [if_pos c1, if_pos c1]
          by_cases c2 : dR lack all (w (num i)) < dR lack all (w h)
          · rw [if_pos c2]
            rw [Int32.lt_iff_toInt_lt] at c2
            rw [decide_eq_true (Or.inl c2)]
            exact o1
          · rw [if_neg c2]
            rw [Int32.lt_iff_toInt_lt] at c2
            by_cases c3 : dR lack all (w h) = dR lack all (w (num i))
            · rw [if_pos c3]
              rw [← Int32.toInt_inj] at c3
              by_cases c4 : num i ≤ h
              · rw [if_pos c4, decide_eq_false (by omega)]
                exact z
              · rw [if_neg c4, decide_eq_true (Or.inr ⟨c3, by omega⟩)]
                exact o1
            · rw [if_neg c3]
              rw [← Int32.toInt_inj] at c3
              rw [decide_eq_false (by omega)]
              exact z
        · rw [if_neg c1, if_neg c1]
          exact z)]
      rw [← g5 (fun h => (cond (decide ((dR lack all (w (num i))).toInt < (dR lack all (w h)).toInt ∨ ((dR lack all (w h)).toInt = (dR lack all (w (num i))).toInt ∧ h < num i))) 1 0 : Int))]
      refine sI_ext (fun o ho => ?_)
      show (cond (decide ((dR lack all (w (num i))).toInt < (dR lack all (w (num o))).toInt ∨ ((dR lack all (w (num o))).toInt = (dR lack all (w (num i))).toInt ∧ num o < num i))) 1 0 : Int) = cond (ah R o i) 1 0
      rw [ri i hi, ri o ho]
      have mono : num o < num i ↔ o < i := by
        constructor
        · intro q
          refine Nat.not_le.mp (fun le => ?_)
          by_cases e : i = o
          · rw [e] at q
            omega
          · have := g4 i o (by omega) ho
            omega
        · intro q
          exact g4 o i q hi
      unfold ah
      simp only [mono]
    have ue := up_end u1 hi
    have fin : (dLeft u w c n lack all ≤ dAhead u w c n lack all (num i)) ↔ S i = false := by
      rw [Int32.le_iff_toInt_le, dl, da]
      constructor
      · intro q
        cases e : S i with
        | false => rfl
        | true =>
          have := ue.mp e
          omega
      · intro q
        refine Int.not_lt.mp (fun lt => ?_)
        have := ue.mpr (by omega)
        rw [q] at this
        cases this
    show dQ lack all (w (num i)) + cond (S i) 1 0 = dQ lack all (w (num i)) + (if dLeft u w c n lack all ≤ dAhead u w c n lack all (num i) then 0 else 1)
    cases e : S i with
    | false => rw [if_pos (fin.mpr e)]; rfl
    | true => rw [if_neg (fun q => by rw [fin.mp q] at e; cases e)]; rfl
