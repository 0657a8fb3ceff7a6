/-! THE LAW: its calls in range, and bounds of their answers -/
theorem zF_v : (zF1 0 = 64 ∧ zF1 1 = 4 ∧ zF1 2 = 0 ∧ zF1 3 = 1 ∧ zF1 4 = 0) ∧ (zF2 0 = 640 ∧ zF2 1 = 40 ∧ zF2 2 = 2 ∧ zF2 3 = 2 ∧ zF2 4 = 1) := by decide
theorem zPc_mk {s : ZS} {k a b : Int} (hk : 0 ≤ k ∧ k ≤ 6) (ha : 0 ≤ a ∧ a ≤ 1500) (h0 : k = 0 → a ≤ 255) (h1 : k = 1 ∨ k = 2 → 1 ≤ a ∧ a ≤ 500) (h3 : k = 3 → a ≤ (s.2.2.2.1 : Int)) (h4 : 4 ≤ k → a ≤ 4) (b3 : k = 3 → 1 ≤ b ∧ b ≤ 40) (b5 : k = 5 → zF1 a.toNat ≤ b ∧ b ≤ zF2 a.toNat) : zPc s k a b := by
  unfold zPc
  rcases (show k = 0 ∨ k = 1 ∨ k = 2 ∨ k = 3 ∨ k = 4 ∨ k = 5 ∨ k = 6 by omega) with q | q | q | q | q | q | q
  · exact Or.inl ⟨q, ha.1, h0 q⟩
  · exact Or.inr (Or.inl ⟨Or.inl q, h1 (Or.inl q)⟩)
  · exact Or.inr (Or.inl ⟨Or.inr q, h1 (Or.inr q)⟩)
  · exact Or.inr (Or.inr (Or.inl ⟨q, ⟨ha.1, h3 q⟩, b3 q⟩))
  · exact Or.inr (Or.inr (Or.inr (Or.inl q)))
  · exact Or.inr (Or.inr (Or.inr (Or.inr (Or.inl ⟨q, ⟨ha.1, h4 (by omega)⟩, b5 q⟩))))
  · exact Or.inr (Or.inr (Or.inr (Or.inr (Or.inr q))))
theorem xCal_b {a : ZA} (ha : zAI a) {k x y : Int} (h : zPc a.1 k x y) : -5 ≤ (xCal a k x y).1 ∧ (xCal a k x y).1 ≤ 2000 := by
  have hs := ha.1
  obtain ⟨he, hk, hb, s0, s1, s2, s3, s4, hw⟩ := id hs
  have htk := ztk_b s3 s0
  rcases h with ⟨h0, h1⟩ | ⟨h0 | h0, h1⟩ | ⟨h0, h1, h2⟩ | h0 | ⟨h0, h1, h2⟩ | h0
  · rw [xCal_0 a h0]
    unfold xSend
    rw [if_neg (by omega)]
    by_cases q : 1500 - (a.1.2.2.2.1 : Int) < ztk a.1.2.2.1
    · rw [if_pos q]
      exact ⟨show (-5 : Int) ≤ -3 by decide, show (-3 : Int) ≤ 2000 by decide⟩
    · rw [if_neg q]
      show -5 ≤ ((a.1.2.2.2.1 + (ztk a.1.2.2.1).toNat : Nat) : Int) ∧ ((a.1.2.2.2.1 + (ztk a.1.2.2.1).toNat : Nat) : Int) ≤ 2000
      omega
  · rw [xCal_1 a h0]
    unfold xStr
    rw [if_neg (by omega)]
    by_cases q : 1500 - (a.1.2.2.2.1 : Int) < x
    · rw [if_pos q]
      exact ⟨show (-5 : Int) ≤ -3 by decide, show (-3 : Int) ≤ 2000 by decide⟩
    · rw [if_neg q]
      show -5 ≤ ((a.1.2.2.2.1 + x.toNat : Nat) : Int) ∧ ((a.1.2.2.2.1 + x.toNat : Nat) : Int) ≤ 2000
      omega
  · rw [xCal_2 a h0]
    unfold xStr
    rw [if_neg (by omega)]
    by_cases q : 1500 - (a.1.2.2.2.1 : Int) < x
    · rw [if_pos q]
      exact ⟨show (-5 : Int) ≤ -3 by decide, show (-3 : Int) ≤ 2000 by decide⟩
    · rw [if_neg q]
      show -5 ≤ ((a.1.2.2.2.1 + x.toNat : Nat) : Int) ∧ ((a.1.2.2.2.1 + x.toNat : Nat) : Int) ≤ 2000
      omega
  · rw [xCal_3 a h0]
    unfold xDis
    by_cases q : y < 1 ∨ 40 < y ∨ x < 0 ∨ (a.1.2.2.2.1 : Int) - y < x
    · rw [if_pos q]
      exact ⟨show (-5 : Int) ≤ -2 by decide, show (-2 : Int) ≤ 2000 by decide⟩
    · rw [if_neg q]
      have hz := zct_b (g := fun j => zB (!a.1.1 j)) (f := x.toNat) (fun j => zB_b _) y.toNat
      show -5 ≤ zct (fun j => zB (!a.1.1 j)) x.toNat y.toNat ∧ zct (fun j => zB (!a.1.1 j)) x.toNat y.toNat ≤ 2000
      omega
  · rw [xCal_4 a h0]
    show -5 ≤ ((a.1.2.2.2.1 : Nat) : Int) ∧ ((a.1.2.2.2.1 : Nat) : Int) ≤ 2000
    omega
  · rw [xCal_5 a h0]
    unfold xSet
    rw [if_neg (by omega), if_neg (by omega)]
    by_cases q : y = a.1.2.2.1 x.toNat
    · rw [if_pos q]
      exact ⟨Int.le_refl _, show (-5 : Int) ≤ 2000 by decide⟩
    · rw [if_neg q]
      show -5 ≤ a.1.2.2.1 x.toNat ∧ a.1.2.2.1 x.toNat ≤ 2000
      rcases (show x.toNat = 0 ∨ x.toNat = 1 ∨ x.toNat = 2 ∨ x.toNat = 3 ∨ x.toNat = 4 by omega) with e | e | e | e | e <;> (rw [e]; omega)
  · rw [xCal_6 a (k := k) (by omega)]
    unfold xLrn
    have hl := zlearn_b (b := a.1.1) (e := a.1.2.2.2.1)
    by_cases q : zlearn a.1.1 a.1.2.2.2.1 = -5 ∨ zlearn a.1.1 a.1.2.2.2.1 = a.1.2.2.1 1
    · rw [if_pos q]
      exact ⟨Int.le_refl _, show (-5 : Int) ≤ 2000 by decide⟩
    · rw [if_neg q]
      show -5 ≤ zlearn a.1.1 a.1.2.2.2.1 ∧ zlearn a.1.1 a.1.2.2.2.1 ≤ 2000
      omega
theorem xUnd_b (a : ZA) (s : ZS) (h : a.2.1.length ≤ 4) : (xUnd (zrec a s)).1 ≤ 4 := by
  have e : xUnd (zrec a s) = _ := xUnd_s (a := zrec a s) (l := if a.2.1.length = 4 then a.2.1.drop 1 else a.2.1) (s := a.1) rfl
  rw [e]
  show (((if a.2.1.length = 4 then a.2.1.drop 1 else a.2.1).length : Nat) : Int) ≤ 4
  split
  · rw [List.length_drop]
    omega
  · omega
theorem zLq_start {q : Nat → Int} {c : Nat → Bool} (h : q = zU (zU (zU (fun _ => 0) 0 256) 1 16) 3 1) : zLq q c zS0 := by
  subst h
  refine ⟨zS0_I, fun i hi => ?_, rfl, rfl, fun t ht => absurd ht (Nat.not_lt_zero t)⟩
  rcases (show i = 0 ∨ i = 1 ∨ i = 2 ∨ i = 3 ∨ i = 4 by omega) with q | q | q | q | q <;> (subst q; rfl)
theorem zLv_start (w : Nat → Int) : zLv w zS0 := fun j hj => absurd hj (Nat.not_lt_zero j)
