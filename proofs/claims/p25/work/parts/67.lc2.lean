/-! THE LAW: its calls, and what they are due -/
noncomputable def xCal (a : ZA) (k x y : Int) : Int × ZA := if k = 0 then xSend a x else if k = 1 then xStr a 1 x else if k = 2 then xStr a 0 x else if k = 3 then xDis a x y else if k = 4 then xClr a else if k = 5 then xSet a x y else xLrn a
/-- the calls that the law makes: their arguments are in range -/
def zPc (s : ZS) (k x y : Int) : Prop := (k = 0 ∧ 0 ≤ x ∧ x ≤ 255) ∨ ((k = 1 ∨ k = 2) ∧ 1 ≤ x ∧ x ≤ 500) ∨ (k = 3 ∧ (0 ≤ x ∧ x ≤ (s.2.2.2.1 : Int)) ∧ 1 ≤ y ∧ y ≤ 40) ∨ k = 4 ∨ (k = 5 ∧ (0 ≤ x ∧ x ≤ 4) ∧ zF1 x.toNat ≤ y ∧ y ≤ zF2 x.toNat) ∨ k = 6
theorem zPc_k {s : ZS} {k x y : Int} (h : zPc s k x y) : 0 ≤ k ∧ k ≤ 6 := by
  unfold zPc at h
  omega
theorem xCal_0 (a : ZA) {k x y : Int} (h : k = 0) : xCal a k x y = xSend a x := if_pos h
theorem xCal_1 (a : ZA) {k x y : Int} (h : k = 1) : xCal a k x y = xStr a 1 x := (if_neg (by omega)).trans (if_pos h)
theorem xCal_2 (a : ZA) {k x y : Int} (h : k = 2) : xCal a k x y = xStr a 0 x := (if_neg (by omega)).trans ((if_neg (by omega)).trans (if_pos h))
theorem xCal_3 (a : ZA) {k x y : Int} (h : k = 3) : xCal a k x y = xDis a x y := (if_neg (by omega)).trans ((if_neg (by omega)).trans ((if_neg (by omega)).trans (if_pos h)))
theorem xCal_4 (a : ZA) {k x y : Int} (h : k = 4) : xCal a k x y = xClr a := (if_neg (by omega)).trans ((if_neg (by omega)).trans ((if_neg (by omega)).trans ((if_neg (by omega)).trans (if_pos h))))
theorem xCal_5 (a : ZA) {k x y : Int} (h : k = 5) : xCal a k x y = xSet a x y := (if_neg (by omega)).trans ((if_neg (by omega)).trans ((if_neg (by omega)).trans ((if_neg (by omega)).trans ((if_neg (by omega)).trans (if_pos h)))))
theorem xCal_6 (a : ZA) {k x y : Int} (h : ¬ (0 ≤ k ∧ k ≤ 5)) : xCal a k x y = xLrn a := (if_neg (by omega)).trans ((if_neg (by omega)).trans ((if_neg (by omega)).trans ((if_neg (by omega)).trans ((if_neg (by omega)).trans (if_neg (by omega))))))
/-! what the rows hold behind each -/
theorem xSend_y (a : ZA) {x : Int} (h : 0 ≤ x ∧ x ≤ 255) : (xSend a x).1 = (ySnd a.1 x.toNat).1 ∧ (xSend a x).2.1 = (ySnd a.1 x.toNat).2 := by
  unfold xSend ySnd
  rw [if_neg (by omega)]
  by_cases q : 1500 - (a.1.2.2.2.1 : Int) < ztk a.1.2.2.1
  · rw [if_pos q, if_pos q]
    exact ⟨rfl, rfl⟩
  · rw [if_neg q, if_neg q]
    exact ⟨rfl, rfl⟩
theorem zsb_at {s : ZS} (hs : zIs s) {v : Int} (hv : v = 0 ∨ v = 1) {m t : Nat} (ht : t < s.2.2.2.1 + m) : zsb s.1 s.2.2.2.1 v m t = if t < s.2.2.2.1 then s.1 t else decide (v = 1) := by
  unfold zsb
  by_cases hte : t < s.2.2.2.1
  · rw [if_pos hte]
    rcases hv with q | q
    · rw [if_pos q]
      unfold zlow
      rw [decide_eq_false (show ¬ s.2.2.2.1 ≤ t by omega)]
      cases s.1 t <;> rfl
    · rw [if_neg (by omega)]
  · rw [if_neg hte]
    rcases hv with q | q
    · rw [if_pos q, q]
      unfold zlow
      rw [decide_eq_true (show s.2.2.2.1 ≤ t by omega), decide_eq_true (show t < s.2.2.2.1 + m by omega)]
      cases s.1 t <;> rfl
    · rw [if_neg (by omega), hs.2.2.1 t (by omega), q]
      rfl
theorem zLq_str {q : Nat → Int} {c : Nat → Bool} {s : ZS} {v v5 : Int} {m : Nat} (h : zLq q c s) (hv : v = 0 ∨ v = 1) (hr : (m : Int) ≤ 1500 - (s.2.2.2.1 : Int)) (h5 : v5 = ((s.2.2.2.1 + m : Nat) : Int)) : zLq (zU q 5 v5) (zst0 c s.2.2.2.1 m (decide (v = 1))) (zSs s v m) := by
  obtain ⟨hs, h1, h2, h3, h4⟩ := h
  refine ⟨zI_stretch v hs hr, fun i hi => (zU_n (by omega)).trans (h1 i hi), ?_, (zU_n (by decide)).trans h3, fun t ht => ?_⟩
  · rw [zU_s, h5]
    rfl
  · have ht' : t < s.2.2.2.1 + m := ht
    show _ = zsb s.1 s.2.2.2.1 v m t
    rw [zsb_at hs hv ht']
    unfold zst0
    by_cases q : t < s.2.2.2.1
    · rw [if_pos q, if_neg (by omega)]
      exact h4 t q
    · rw [if_neg q, if_pos (by omega)]
theorem zSf_0 (s : ZS) (f : Nat) : zSf s f 0 = s := by
  unfold zSf
  rw [Nat.add_zero, zfl_0]
theorem zLq_flip {q : Nat → Int} {c : Nat → Bool} {s : ZS} {f i : Nat} {v : Int} (h : zLq q c (zSf s f i)) (hs : zIs s) (hi : f + i < s.2.2.2.1) (hv : v = 1 - zlv (zSf s f i).1 ((f + i : Nat) : Int)) : zLq q (zbU c (f + i) (decide (v = 1))) (zSf s f (i + 1)) := by
  obtain ⟨_, h1, h2, h3, h4⟩ := h
  have e1 : (zSf s f (i + 1)).1 = zbU (zSf s f i).1 (f + i) (!((zSf s f i).1 (f + i))) := (zfl_s s.1 (show f ≤ f + i by omega)).symm
  refine ⟨zI_fl hs (show f + (i + 1) ≤ s.2.2.2.1 by omega), h1, h2, h3, fun t ht => ?_⟩
  have ht' : t < s.2.2.2.1 := ht
  rw [e1]
  by_cases q : t = f + i
  · subst q
    rw [zbU_s, zbU_s, hv, zlv_nat]
    cases (zSf s f i).1 (f + i) <;> rfl
  · rw [zbU_n q, zbU_n q]
    exact h4 t ht'
theorem zlv_flip (s : ZS) (f i : Nat) : zlv (zSf s f (i + 1)).1 ((f + i : Nat) : Int) = zB (!s.1 (f + i)) := by
  rw [zlv_nat]
  show zB (zfl s.1 f (f + (i + 1)) (f + i)) = _
  unfold zfl
  rw [if_pos (by omega)]
theorem zLv_same {w : Nat → Int} {s s' : ZS} (h : zLv w s) (hk : s'.2.2.2.2 = s.2.2.2.2) (hw : s'.2.1 = s.2.1) : zLv w s' := by
  intro j hj
  rw [hw]
  exact h j (by rw [← hk]; exact hj)
theorem zIs_clear {s : ZS} (h : zIs s) : zIs (zSc s) := by
  obtain ⟨he, hk, hb, s0, s1, s2, s3, s4, hw⟩ := h
  exact ⟨Nat.zero_le _, Nat.le_refl _, fun _ _ => rfl, s0, s1, s2, s3, s4, fun j hj => absurd hj (Nat.not_lt_zero j)⟩
theorem zLq_clear {q : Nat → Int} {c : Nat → Bool} {s : ZS} (h : zLq q c s) : zLq (zU (zU q 5 0) 6 0) c (zSc s) := by
  obtain ⟨hs, h1, h2, h3, h4⟩ := h
  refine ⟨zIs_clear hs, fun i hi => (zU_n (by omega)).trans ((zU_n (by omega)).trans (h1 i hi)), ?_, zU_s, fun t ht => absurd ht (Nat.not_lt_zero t)⟩
  rw [zU_n (by decide), zU_s]
  rfl
theorem zLv_clear (w : Nat → Int) (s : ZS) : zLv w (zSc s) := fun j hj => absurd hj (Nat.not_lt_zero j)
theorem zIs_se {s : ZS} (h : zIs s) {i : Nat} (hi : i < 5) {z : Int} (h1 : zF1 i ≤ z) (h2 : z ≤ zF2 i) : zIs (zSe s i z) := by
  obtain ⟨he, hk, hb, s0, s1, s2, s3, s4, hw⟩ := h
  rcases (show i = 0 ∨ i = 1 ∨ i = 2 ∨ i = 3 ∨ i = 4 by omega) with q | q | q | q | q
  · subst q
    exact ⟨he, hk, hb, ⟨h1, h2⟩, s1, s2, s3, s4, hw⟩
  · subst q
    exact ⟨he, hk, hb, s0, ⟨h1, h2⟩, s2, s3, s4, hw⟩
  · subst q
    exact ⟨he, hk, hb, s0, s1, ⟨h1, h2⟩, s3, s4, hw⟩
  · subst q
    exact ⟨he, hk, hb, s0, s1, s2, ⟨h1, h2⟩, s4, hw⟩
  · subst q
    exact ⟨he, hk, hb, s0, s1, s2, s3, ⟨h1, h2⟩, hw⟩
theorem zLq_set {q : Nat → Int} {c : Nat → Bool} {s : ZS} (h : zLq q c s) {i : Nat} (hi : i < 5) {z : Int} (h1 : zF1 i ≤ z) (h2 : z ≤ zF2 i) : zLq (zU q i z) c (zSe s i z) := by
  obtain ⟨hs, g1, g2, g3, g4⟩ := h
  refine ⟨zIs_se hs hi h1 h2, fun j hj => ?_, (zU_n (by omega)).trans g2, (zU_n (by omega)).trans g3, g4⟩
  show zU q i z j = zU s.2.2.1 i z j
  unfold zU
  split
  · rfl
  · exact g1 j hj
theorem zU_self {q : Nat → Int} {i : Nat} {z : Int} (h : q i = z) : zU q i z = q := by
  funext j
  unfold zU
  by_cases e : j = i
  · rw [if_pos e, e, h]
  · rw [if_neg e]
/-! what a call leaves -/
theorem zpush_I {l : List ZS} {s : ZS} (h : ∀ x ∈ l, zIs x) (hs : zIs s) : ∀ x ∈ zpush l s, zIs x := by
  intro x hx
  unfold zpush at hx
  rcases List.mem_append.mp hx with q | q
  · split at q
    · exact h x (List.mem_of_mem_drop q)
    · exact h x q
  · rcases List.mem_singleton.mp q with rfl
    exact hs
theorem zAI_rec {a : ZA} {s : ZS} (h : zAI a) (hs : zIs s) : zAI (zrec a s) := by
  obtain ⟨h1, h2, h3, h4, h5, h6⟩ := h
  exact ⟨hs, zpush_I h2 h1, h3, h4, h5, h6⟩
/-- a call that the law makes: nothing changes and the answer is below 0, or it is recorded and the answer is not -/
theorem xCal_c {a : ZA} (ha : zAI a) {k x y : Int} (h : zPc a.1 k x y) : ((xCal a k x y).1 < 0 ∧ (xCal a k x y).2 = a) ∨ (0 ≤ (xCal a k x y).1 ∧ ∃ s : ZS, zIs s ∧ (xCal a k x y).2 = zrec a s) := by
  have hs := ha.1
  obtain ⟨he, hk, hb, s0, s1, s2, s3, s4, hw⟩ := id hs
  rcases h with ⟨h0, h1⟩ | ⟨h0 | h0, h1⟩ | ⟨h0, h1, h2⟩ | h0 | ⟨h0, h1, h2⟩ | h0
  · rw [xCal_0 a h0]
    unfold xSend
    rw [if_neg (by omega)]
    by_cases q : 1500 - (a.1.2.2.2.1 : Int) < ztk a.1.2.2.1
    · rw [if_pos q]
      exact Or.inl ⟨show (-3 : Int) < 0 by decide, rfl⟩
    · rw [if_neg q]
      exact Or.inr ⟨Int.natCast_nonneg _, zSw a.1 x.toNat, zI_word hs (show x.toNat ≤ 255 by omega) (by omega), rfl⟩
  · rw [xCal_1 a h0]
    unfold xStr
    rw [if_neg (by omega)]
    by_cases q : 1500 - (a.1.2.2.2.1 : Int) < x
    · rw [if_pos q]
      exact Or.inl ⟨show (-3 : Int) < 0 by decide, rfl⟩
    · rw [if_neg q]
      exact Or.inr ⟨Int.natCast_nonneg _, zSs a.1 1 x.toNat, zI_stretch (m := x.toNat) 1 hs (by omega), rfl⟩
  · rw [xCal_2 a h0]
    unfold xStr
    rw [if_neg (by omega)]
    by_cases q : 1500 - (a.1.2.2.2.1 : Int) < x
    · rw [if_pos q]
      exact Or.inl ⟨show (-3 : Int) < 0 by decide, rfl⟩
    · rw [if_neg q]
      exact Or.inr ⟨Int.natCast_nonneg _, zSs a.1 0 x.toNat, zI_stretch (m := x.toNat) 0 hs (by omega), rfl⟩
  · rw [xCal_3 a h0]
    unfold xDis
    by_cases q : y < 1 ∨ 40 < y ∨ x < 0 ∨ (a.1.2.2.2.1 : Int) - y < x
    · rw [if_pos q]
      exact Or.inl ⟨show (-2 : Int) < 0 by decide, rfl⟩
    · rw [if_neg q]
      exact Or.inr ⟨(zct_b (fun j => zB_b _) _).1, zSf a.1 x.toNat y.toNat, zI_fl hs (show x.toNat + y.toNat ≤ a.1.2.2.2.1 by omega), rfl⟩
  · rw [xCal_4 a h0]
    exact Or.inr ⟨Int.natCast_nonneg _, _, zIs_clear hs, rfl⟩
  · rw [xCal_5 a h0]
    unfold xSet
    rw [if_neg (by omega), if_neg (by omega)]
    by_cases q : y = a.1.2.2.1 x.toNat
    · rw [if_pos q]
      exact Or.inl ⟨show (-5 : Int) < 0 by decide, rfl⟩
    · rw [if_neg q]
      refine Or.inr ⟨?_, _, zIs_se hs (show x.toNat < 5 by omega) h2.1 h2.2, rfl⟩
      show 0 ≤ a.1.2.2.1 x.toNat
      rcases (show x.toNat = 0 ∨ x.toNat = 1 ∨ x.toNat = 2 ∨ x.toNat = 3 ∨ x.toNat = 4 by omega) with e | e | e | e | e <;> (rw [e]; omega)
  · rw [xCal_6 a (by omega)]
    unfold xLrn
    have hl := zlearn_b (b := a.1.1) (e := a.1.2.2.2.1)
    by_cases q : zlearn a.1.1 a.1.2.2.2.1 = -5 ∨ zlearn a.1.1 a.1.2.2.2.1 = a.1.2.2.1 1
    · rw [if_pos q]
      exact Or.inl ⟨show (-5 : Int) < 0 by decide, rfl⟩
    · rw [if_neg q]
      refine Or.inr ⟨show 0 ≤ zlearn a.1.1 a.1.2.2.2.1 by omega, _, zIs_se hs (show 1 < 5 by decide) ?_ ?_, rfl⟩
      · show (4 : Int) ≤ _
        omega
      · show _ ≤ (40 : Int)
        omega
/-- what a call answers and leaves hangs on the state alone -/
theorem xCal_s {a a' : ZA} (e : a'.1 = a.1) (k x y : Int) : (xCal a' k x y).1 = (xCal a k x y).1 ∧ (xCal a' k x y).2.1 = (xCal a k x y).2.1 := by
  unfold xCal
  split
  · unfold xSend
    rw [e]
    split
    · exact ⟨rfl, e⟩
    · split
      · exact ⟨rfl, e⟩
      · exact ⟨rfl, rfl⟩
  · split
    · unfold xStr
      rw [e]
      split
      · exact ⟨rfl, e⟩
      · split
        · exact ⟨rfl, e⟩
        · exact ⟨rfl, rfl⟩
    · split
      · unfold xStr
        rw [e]
        split
        · exact ⟨rfl, e⟩
        · split
          · exact ⟨rfl, e⟩
          · exact ⟨rfl, rfl⟩
      · split
        · unfold xDis
          rw [e]
          split
          · exact ⟨rfl, e⟩
          · exact ⟨rfl, rfl⟩
        · split
          · unfold xClr
            rw [e]
            exact ⟨rfl, rfl⟩
          · split
            · unfold xSet
              rw [e]
              split
              · exact ⟨rfl, e⟩
              · split
                · exact ⟨rfl, e⟩
                · split
                  · exact ⟨rfl, e⟩
                  · exact ⟨rfl, rfl⟩
            · unfold xLrn
              rw [e]
              split
              · exact ⟨rfl, e⟩
              · exact ⟨rfl, rfl⟩
/-- what is undone is as it was -/
theorem xUnd_rec (a : ZA) (s : ZS) : 0 ≤ (xUnd (zrec a s)).1 ∧ (xUnd (zrec a s)).2.1 = a.1 ∧ (zAI a → zAI (xUnd (zrec a s)).2) := by
  have e : xUnd (zrec a s) = _ := xUnd_s (a := zrec a s) (l := if a.2.1.length = 4 then a.2.1.drop 1 else a.2.1) (s := a.1) rfl
  rw [e]
  refine ⟨Int.natCast_nonneg _, rfl, fun h => ?_⟩
  obtain ⟨h1, h2, h3, h4, h5, h6⟩ := h
  refine ⟨h1, fun x hx => ?_, h3, h4, h5, h6⟩
  have hx' : x ∈ (if a.2.1.length = 4 then a.2.1.drop 1 else a.2.1) := hx
  split at hx'
  · exact h2 x (List.mem_of_mem_drop hx')
  · exact h2 x hx'
/-! what is told of a state -/
theorem yTot_s {a a' : ZA} (e : a'.1 = a.1) {w : Int} (h : w ≤ 17) : yTot a' w = yTot a w := by
  unfold yTot
  rw [e, if_neg (show ¬ w = 18 by omega), if_neg (show ¬ w = 18 by omega), if_neg (show ¬ w = 19 by omega), if_neg (show ¬ w = 19 by omega)]
noncomputable def zt1 (a : ZA) : Nat → Int64
  | 0 => 79
  | n + 1 => 31 * zt1 a n + (iI (yTot a ((n : Nat) : Int))).toInt64
noncomputable def zt2 (a : ZA) : Nat → Int64
  | 0 => zt1 a 17
  | n + 1 => 3 * zt2 a n + (iI (yLev a.1 ((7 * n : Nat) : Int))).toInt64
theorem zt1_s {a a' : ZA} (e : a'.1 = a.1) : ∀ n, n ≤ 17 → zt1 a' n = zt1 a n
  | 0, _ => rfl
  | n + 1, h => by
    show 31 * zt1 a' n + _ = 31 * zt1 a n + _
    rw [zt1_s e n (by omega), yTot_s e (by omega)]
theorem zt2_s {a a' : ZA} (e : a'.1 = a.1) : ∀ n, zt2 a' n = zt2 a n
  | 0 => zt1_s e 17 (by decide)
  | n + 1 => by
    show 3 * zt2 a' n + _ = 3 * zt2 a n + _
    rw [zt2_s e n, e]
theorem yTot_q {q : Nat → Int} {c : Nat → Bool} {a : ZA} (h : zLq q c a.1) {i : Nat} (hi : i < 7) : yTot a ((i : Nat) : Int) = q i := by
  obtain ⟨hs, h1, h2, h3, h4⟩ := h
  unfold yTot
  rw [if_neg (by omega)]
  by_cases q5 : i < 5
  · rw [if_pos (by omega), Int.toNat_natCast]
    exact (h1 i q5).symm
  · rw [if_neg (by omega)]
    by_cases q6 : i = 5
    · subst q6
      rw [if_pos (by decide)]
      exact h2.symm
    · obtain rfl : i = 6 := by omega
      rw [if_neg (by decide), if_pos (by decide)]
      exact h3.symm
theorem yTot_7 (a : ZA) : yTot a 7 = ((zitems a.1 (zrl a.1)).length : Int) ∧ yTot a 12 = (zfls a.1.1 a.1.2.2.1 a.1.2.2.2.1 (zrl a.1) : Int) ∧ yTot a 13 = (zds (zitems a.1 (zrl a.1)) (zitems a.1 (zrl a.1)).length : Int) ∧ yTot a 14 = zwlB a.1 (zrl a.1) ∧ yTot a 15 = zcf a.1.1 a.1.2.2.2.1 ∧ yTot a 16 = zcl a.1.1 a.1.2.2.2.1 ∧ yTot a 17 = zlearn a.1.1 a.1.2.2.2.1 := by
  refine ⟨?_, ?_, ?_, ?_, ?_, ?_, ?_⟩
  · unfold yTot
    rw [if_neg (by decide), if_neg (by decide), if_neg (by decide), if_neg (by decide), if_pos rfl]
  · unfold yTot
    rw [if_neg (by decide), if_neg (by decide), if_neg (by decide), if_neg (by decide), if_neg (by decide), if_pos rfl]
  · unfold yTot
    rw [if_neg (by decide), if_neg (by decide), if_neg (by decide), if_neg (by decide), if_neg (by decide), if_neg (by decide), if_pos rfl]
  · unfold yTot
    rw [if_neg (by decide), if_neg (by decide), if_neg (by decide), if_neg (by decide), if_neg (by decide), if_neg (by decide), if_neg (by decide), if_pos rfl]
  · unfold yTot
    rw [if_neg (by decide), if_neg (by decide), if_neg (by decide), if_neg (by decide), if_neg (by decide), if_neg (by decide), if_neg (by decide), if_neg (by decide), if_pos rfl]
  · unfold yTot
    rw [if_neg (by decide), if_neg (by decide), if_neg (by decide), if_neg (by decide), if_neg (by decide), if_neg (by decide), if_neg (by decide), if_neg (by decide), if_neg (by decide), if_pos rfl]
  · unfold yTot
    rw [if_neg (by decide), if_neg (by decide), if_neg (by decide), if_neg (by decide), if_neg (by decide), if_neg (by decide), if_neg (by decide), if_neg (by decide), if_neg (by decide), if_neg (by decide), if_pos rfl]
theorem yTot_8 (a : ZA) {k : Nat} (h : k < 4) : yTot a ((8 + k : Nat) : Int) = zkn (zitems a.1 (zrl a.1)) (k : Int) := by
  unfold yTot
  rw [if_neg (by omega), if_neg (by omega), if_neg (by omega), if_neg (by omega), if_neg (by omega), if_neg (by omega), if_neg (by omega), if_neg (by omega), if_neg (by omega), if_neg (by omega), if_neg (by omega), if_neg (by omega), if_neg (by omega), show ((8 + k : Nat) : Int) - 8 = (k : Int) by omega]
/-- falls and low ticks, tick by tick -/
theorem zcf_s (b : Nat → Bool) (t : Nat) {v : Int} (h : v = zB (zfall b t)) : zcf b t + v = zcf b (t + 1) := by
  unfold zcf
  rw [h]
  show _ = zct _ 0 t + zB (zfall b (0 + t))
  rw [Nat.zero_add]
theorem zcl_s (b : Nat → Bool) (t : Nat) : zcl b t + (1 - zlv b ((t : Nat) : Int)) = zcl b (t + 1) := by
  unfold zcl
  show _ = zct _ 0 t + zB (!b (0 + t))
  rw [Nat.zero_add, zlv_nat]
  cases b t <;> rfl
theorem yRcv_g {s : ZS} {g : Nat → Int} {rk i : Nat} (hG : zGr g (zitems s (zrl s)) rk) (hi : i < 5) (hr : rk < (zitems s (zrl s)).length) : yRcv s ((rk : Nat) : Int) ((i : Nat) : Int) = g i := by
  obtain ⟨it, hit, -⟩ := zit_at hr
  unfold yRcv
  rw [if_neg (by omega), Int.toNat_natCast, zno_at hit]
  exact (hG it hit i hi).symm
theorem yRcv_n {s : ZS} {rk i : Nat} (hi : i < 5) (hr : (zitems s (zrl s)).length ≤ rk) : yRcv s ((rk : Nat) : Int) ((i : Nat) : Int) = -5 := by
  unfold yRcv
  rw [if_neg (by omega)]
  exact zno_none (Or.inr (by omega))
theorem ySnt_y {s : ZS} {w : Nat → Int} {z : Int} (hW : zLv w s) (h0 : 0 ≤ z) (h1 : z < (s.2.2.2.2 : Int)) : ySnt s z = w z.toNat := by
  unfold ySnt zwr
  rw [if_neg (by omega), if_pos ⟨h0, h1⟩]
  exact (hW _ (by omega)).symm
theorem ySnt_n {s : ZS} {z : Int} (h0 : 0 ≤ z) (h1 : (s.2.2.2.2 : Int) ≤ z) : ySnt s z = -5 := by
  unfold ySnt zwr
  rw [if_neg (by omega), if_neg (by omega)]
theorem yLev_z {s : ZS} {z : Int} (h0 : 0 ≤ z) : yLev s z = zlv s.1 z := if_neg (by omega)
theorem yIfl_4 {s : ZS} {r : Nat} (hr : 4 ≤ r ∧ r ≤ 40) : yIfl s (r : Int) 0 = ((zitems s r).length : Int) ∧ yIfl s (r : Int) 1 = zkn (zitems s r) 0 ∧ yIfl s (r : Int) 2 = (zds (zitems s r) (zitems s r).length : Int) ∧ yIfl s (r : Int) 3 = zwlB s r := by
  refine ⟨?_, ?_, ?_, ?_⟩
  · unfold yIfl
    rw [if_neg (by omega), if_pos rfl, Int.toNat_natCast]
  · unfold yIfl
    rw [if_neg (by omega), if_neg (by decide), if_pos rfl, Int.toNat_natCast]
  · unfold yIfl
    rw [if_neg (by omega), if_neg (by decide), if_neg (by decide), if_pos rfl, Int.toNat_natCast]
  · unfold yIfl
    rw [if_neg (by omega), if_neg (by decide), if_neg (by decide), if_neg (by decide), Int.toNat_natCast]
section ZRulesL2
variable {l : Launch} {X : ZX} {G : ZG} {Y : ZY} {nL cells slots pc : Nat} {lv lv' : List (Nat × Value)} {st rest : List Value} {ws ws' : va_W} {cc : ByteArray} {own : String} {Ts : List Cond} {rm : Room} {fl : Prop}
/-- two answers that are the same -/
theorem z_sameN (C : ZC X G Y nL cc own Ts rm fl) {v w : Int} {off : Int} {tgt : Nat} (hd : decode cc pc = .ok (.if_icmp .ne off, 3)) (ht : (pc : Int) + off = (tgt : Int)) (hvw : v = w) (kk : Z l X G Y nL cells slots (pc + 3) lv st ws) : Z l X G Y nL cells slots pc lv (.int (iI w) :: .int (iI v) :: st) ws := fun H locs ls hP hD hS h =>
  lv_icmp_ne C.1 C.2.1 hd ht (fun q => absurd (by rw [hvw]) q) (fun _ => kk H locs ls hP hD hS h)
end ZRulesL2
