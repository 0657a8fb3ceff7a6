/-! THE REFERENCE: what its rows hold -/
/-- the row of a state: settings, end, count, words, levels -/
def zMs (M : Nat → Int) (s : ZS) : Prop := (∀ i, i < 5 → M i = s.2.2.1 i) ∧ M 5 = (s.2.2.2.1 : Int) ∧ M 6 = (s.2.2.2.2 : Int) ∧ (∀ j, j < s.2.2.2.2 → M (7 + j) = s.2.1 j) ∧ (∀ t, t < s.2.2.2.1 → M (47 + t) = zB (s.1 t))
theorem zMs_c {M M' : Nat → Int} {s : ZS} (hs : zIs s) (h : zMs M s) (hc : ∀ j, j < 1547 → M' j = M j) : zMs M' s := by
  obtain ⟨h1, h2, h3, h4, h5⟩ := h
  have he : s.2.2.2.1 ≤ 1500 := hs.1
  have hk : 40 * s.2.2.2.2 ≤ s.2.2.2.1 := hs.2.1
  exact ⟨fun i hi => (hc i (by omega)).trans (h1 i hi), (hc 5 (by decide)).trans h2, (hc 6 (by decide)).trans h3, fun j hj => (hc _ (by omega)).trans (h4 j hj), fun t ht => (hc _ (by omega)).trans (h5 t ht)⟩
theorem zMs_r {M : Nat → Int} {s : ZS} (hs : zIs s) (h : zMs M s) : (64 ≤ M 0 ∧ M 0 ≤ 640 ∧ M 0 = s.2.2.1 0) ∧ (4 ≤ M 1 ∧ M 1 ≤ 40 ∧ M 1 = s.2.2.1 1) ∧ (0 ≤ M 2 ∧ M 2 ≤ 2 ∧ M 2 = s.2.2.1 2) ∧ (1 ≤ M 3 ∧ M 3 ≤ 2 ∧ M 3 = s.2.2.1 3) ∧ (0 ≤ M 4 ∧ M 4 ≤ 1 ∧ M 4 = s.2.2.1 4) ∧ M 5 = (s.2.2.2.1 : Int) ∧ M 6 = (s.2.2.2.2 : Int) ∧ s.2.2.2.1 ≤ 1500 ∧ 40 * s.2.2.2.2 ≤ s.2.2.2.1 := by
  obtain ⟨h1, h2, h3, h4, h5⟩ := h
  obtain ⟨he, hk, hb, s0, s1, s2, s3, s4, hw⟩ := hs
  have a0 := h1 0 (by decide)
  have a1 := h1 1 (by decide)
  have a2 := h1 2 (by decide)
  have a3 := h1 3 (by decide)
  have a4 := h1 4 (by decide)
  exact ⟨⟨by omega, by omega, a0⟩, ⟨by omega, by omega, a1⟩, ⟨by omega, by omega, a2⟩, ⟨by omega, by omega, a3⟩, ⟨by omega, by omega, a4⟩, h2, h3, he, hk⟩
/-- a row copied as far as i -/
def zcp (F Q : Nat → Int) (i : Nat) : Nat → Int := fun j => if j < i then Q j else F j
theorem zcp_0 (F Q : Nat → Int) : zcp F Q 0 = F := funext fun j => if_neg (Nat.not_lt_zero j)
theorem zcp_s (F Q : Nat → Int) (i : Nat) : zU (zcp F Q i) i (Q i) = zcp F Q (i + 1) := by
  funext j
  unfold zU zcp
  by_cases h : j = i
  · rw [if_pos h, if_pos (by omega), h]
  · by_cases h2 : j < i
    · rw [if_neg h, if_pos h2, if_pos (by omega)]
    · rw [if_neg h, if_neg h2, if_neg (by omega)]
theorem zcp_n {F Q : Nat → Int} {n : Nat} : ∀ j, j < n → zcp F Q n j = Q j := fun _ h => if_pos h
/-- a row shifted down, as far as i -/
def zsh (H : Nat → Int) (i : Nat) : Nat → Int := fun j => if j < i then H (j + 1547) else H j
theorem zsh_0 (H : Nat → Int) : zsh H 0 = H := funext fun j => if_neg (Nat.not_lt_zero j)
theorem zsh_at (H : Nat → Int) {i j : Nat} (h : i ≤ j) : zsh H i j = H j := if_neg (by omega)
theorem zsh_s (H : Nat → Int) (i : Nat) : zU (zsh H i) i (H (i + 1547)) = zsh H (i + 1) := by
  funext j
  unfold zU zsh
  by_cases h : j = i
  · rw [if_pos h, if_pos (by omega), h]
  · by_cases h2 : j < i
    · rw [if_neg h, if_pos h2, if_pos (by omega)]
    · rw [if_neg h, if_neg h2, if_neg (by omega)]
/-- a row put into another from p on, as far as i -/
def zbk (H Q : Nat → Int) (p i : Nat) : Nat → Int := fun j => if p ≤ j ∧ j < p + i then Q (j - p) else H j
theorem zbk_0 (H Q : Nat → Int) (p : Nat) : zbk H Q p 0 = H := funext fun j => if_neg (by omega)
theorem zbk_s (H Q : Nat → Int) (p i : Nat) : zU (zbk H Q p i) (p + i) (Q i) = zbk H Q p (i + 1) := by
  funext j
  unfold zU zbk
  by_cases h : j = p + i
  · rw [if_pos h, if_pos (by omega), h, Nat.add_sub_cancel_left]
  · by_cases h2 : p ≤ j ∧ j < p + i
    · rw [if_neg h, if_pos h2, if_pos (by omega)]
    · rw [if_neg h, if_neg h2, if_neg (by omega)]
/-- the row of the history -/
def zHs (H : Nat → Int) (l : List ZS) : Prop := ∀ i s, l[i]? = some s → zMs (fun j => H (1547 * i + j)) s
theorem zHs_drop {H : Nat → Int} {l : List ZS} (h : zHs H l) (hl : l.length = 4) (hI : ∀ s ∈ l, zIs s) : zHs (zsh H 4641) (l.drop 1) := by
  intro i s hi
  rw [List.getElem?_drop] at hi
  have hlt := (List.getElem?_eq_some_iff.mp hi).1
  refine zMs_c (hI s (List.mem_of_getElem? hi)) (h _ _ hi) (fun j hj => ?_)
  show zsh H 4641 (1547 * i + j) = H (1547 * (1 + i) + j)
  rw [show zsh H 4641 (1547 * i + j) = H (1547 * i + j + 1547) from if_pos (by omega)]
  exact congrArg H (by omega)
theorem zHs_add {H Q : Nat → Int} {l : List ZS} {s : ZS} (h : zHs H l) (hI : ∀ s ∈ l, zIs s) (hs : zIs s) (hQ : zMs Q s) : zHs (zbk H Q (1547 * l.length) 1547) (l ++ [s]) := by
  intro i s2 hi
  by_cases hl : i < l.length
  · rw [List.getElem?_append_left hl] at hi
    refine zMs_c (hI s2 (List.mem_of_getElem? hi)) (h _ _ hi) (fun j hj => ?_)
    exact if_neg (by omega)
  · have hlt := (List.getElem?_eq_some_iff.mp hi).1
    rw [List.length_append] at hlt
    have hlt2 : i < l.length + 1 := hlt
    obtain rfl : i = l.length := by omega
    rw [List.getElem?_append_right (Nat.le_refl _), Nat.sub_self] at hi
    cases hi
    refine zMs_c hs hQ (fun j hj => ?_)
    show zbk H Q (1547 * l.length) 1547 (1547 * l.length + j) = Q j
    rw [show zbk H Q (1547 * l.length) 1547 (1547 * l.length + j) = Q (1547 * l.length + j - 1547 * l.length) from if_pos ⟨by omega, by omega⟩, Nat.add_sub_cancel_left]
theorem zHs_pre {H : Nat → Int} {l l2 : List ZS} (h : zHs H (l ++ l2)) : zHs H l := fun i s hi => h i s (by rw [List.getElem?_append_left (List.getElem?_eq_some_iff.mp hi).1]; exact hi)
/-- one level turned round -/
theorem zMs_flip {M : Nat → Int} {s : ZS} (h : zMs M s) {t : Nat} (ht : t < s.2.2.2.1) (hs : zIs s) : zMs (zU M (47 + t) (1 - M (47 + t))) (zbU s.1 t (!s.1 t), s.2) := by
  obtain ⟨h1, h2, h3, h4, h5⟩ := h
  have he : s.2.2.2.1 ≤ 1500 := hs.1
  have hk : 40 * s.2.2.2.2 ≤ s.2.2.2.1 := hs.2.1
  refine ⟨fun i hi => (zU_n (by omega)).trans (h1 i hi), (zU_n (by omega)).trans h2, (zU_n (by omega)).trans h3, fun j hj => (zU_n (by have hj' : j < s.2.2.2.2 := hj; omega)).trans (h4 j hj), fun j hj => ?_⟩
  show zU M (47 + t) (1 - M (47 + t)) (47 + j) = zB (zbU s.1 t (!s.1 t) j)
  by_cases hjt : j = t
  · subst hjt
    rw [zU_s, zbU_s, h5 j ht]
    cases s.1 j <;> rfl
  · rw [zU_n (by omega), zbU_n hjt]
    exact h5 j hj
theorem zMs_flips {M : Nat → Int} {s : ZS} {f i : Nat} (h : zMs M (zSf s f i)) (hi : f + i < s.2.2.2.1) (hs : zIs s) : zMs (zU M (47 + (f + i)) (1 - M (47 + (f + i)))) (zSf s f (i + 1)) := by
  have := zMs_flip h (t := f + i) hi (zI_fl (f := f) (t := f + i) hs (Nat.le_of_lt hi))
  have hq : (zbU (zSf s f i).1 (f + i) (!(zSf s f i).1 (f + i)), (zSf s f i).2) = zSf s f (i + 1) := by
    show (zbU (zfl s.1 f (f + i)) (f + i) (!(zfl s.1 f (f + i) (f + i))), _) = _
    rw [zfl_s s.1 (by omega)]
    rfl
  rwa [hq] at this
theorem zMs_set {M : Nat → Int} {s : ZS} (h : zMs M s) {i : Nat} (hi : i < 5) (z : Int) : zMs (zU M i z) (zSe s i z) := by
  obtain ⟨h1, h2, h3, h4, h5⟩ := h
  refine ⟨fun j hj => ?_, (zU_n (by omega)).trans h2, (zU_n (by omega)).trans h3, fun j hj => (zU_n (by omega)).trans (h4 j hj), fun j hj => (zU_n (by omega)).trans (h5 j hj)⟩
  show zU M i z j = zU s.2.2.1 i z j
  unfold zU
  split
  · rfl
  · exact h1 j hj
theorem zMs_clear {M M' : Nat → Int} {s : ZS} (h : zMs M s) (h1 : ∀ j, j < 5 → M' j = M j) (h2 : M' 5 = 0) (h3 : M' 6 = 0) : zMs M' (zSc s) := ⟨fun i hi => (h1 i hi).trans (h.1 i hi), h2, h3, fun j hj => absurd hj (Nat.not_lt_zero j), fun j hj => absurd hj (Nat.not_lt_zero j)⟩
/-- levels by the row -/
theorem zMs_lv {M : Nat → Int} {s : ZS} (h : zMs M s) {z : Int} (h0 : 0 ≤ z) (h1 : z < (s.2.2.2.1 : Int)) : M (47 + z.toNat) = zlv s.1 z := by
  have hn : z.toNat < s.2.2.2.1 := by omega
  rw [h.2.2.2.2 _ hn]
  unfold zlv
  rw [if_neg (by omega)]
theorem zlv_end {s : ZS} (hs : zIs s) {z : Int} (h : (s.2.2.2.1 : Int) ≤ z) : zlv s.1 z = 1 := zlv_high (hs.2.2.1 _ (by omega))
/-- a fall, from its two levels -/
theorem zfall_y {b : Nat → Bool} {t : Nat} (h1 : zlv b (t : Int) = 0) (h2 : zlv b ((t : Int) - 1) = 1) : zfall b t = true := by
  rw [zlv_nat] at h1
  unfold zfall
  have hb : b t = false := by
    cases hq : b t
    · rfl
    · rw [hq] at h1
      exact absurd h1 (by decide)
  rw [hb]
  by_cases ht : t = 0
  · rw [decide_eq_true ht]
    rfl
  · rw [show (t : Int) - 1 = ((t - 1 : Nat) : Int) by omega, zlv_nat] at h2
    have hb2 : b (t - 1) = true := by
      cases hq : b (t - 1)
      · rw [hq] at h2
        exact absurd h2 (by decide)
      · rfl
    rw [hb2, Bool.or_true]
    rfl
theorem zfall_n {b : Nat → Bool} {t : Nat} (h : ¬ zlv b (t : Int) = 0 ∨ ¬ zlv b ((t : Int) - 1) = 1) : zfall b t = false := by
  unfold zfall
  rcases h with h | h
  · rw [zlv_nat] at h
    cases hq : b t
    · rw [hq] at h
      exact absurd rfl h
    · rfl
  · by_cases ht : t = 0
    · exact absurd (zlv_neg (b := b) (t := (t : Int) - 1) (by omega)) h
    · rw [show (t : Int) - 1 = ((t - 1 : Nat) : Int) by omega, zlv_nat] at h
      cases hq : b (t - 1)
      · rw [decide_eq_false ht]
        cases b t <;> rfl
      · rw [hq] at h
        exact absurd rfl h
/-- a word on the wire -/
theorem zMs_word {M M1 : Nat → Int} {s : ZS} {w : Nat} (hs : zIs s) (h : zMs M s) (hr : ztk s.2.2.1 ≤ 1500 - (s.2.2.2.1 : Int)) (h0 : ∀ j, j < 47 → M1 j = M j) (hl : ∀ t, t < zps s.2.2.1 s.2.2.2.1 (zbn s.2.2.1).toNat → M1 (47 + t) = zB (zaw s.1 s.2.2.1 s.2.2.2.1 w (zbn s.2.2.1).toNat t)) {v5 v6 : Int} (h5 : v5 = ((s.2.2.2.1 + (ztk s.2.2.1).toNat : Nat) : Int)) (h6 : v6 = ((s.2.2.2.2 + 1 : Nat) : Int)) : zMs (zU (zU (zU M1 5 v5) (7 + s.2.2.2.2) (w : Int)) 6 v6) (zSw s w) := by
  obtain ⟨h1, h2, h3, h4, h55⟩ := h
  have he : s.2.2.2.1 ≤ 1500 := hs.1
  have hk : 40 * s.2.2.2.2 ≤ s.2.2.2.1 := hs.2.1
  obtain ⟨_, _, _, s0, s1, s2, s3, s4, _⟩ := hs
  have htk := ztk_b s3 s0
  refine ⟨fun i hi => ?_, ?_, ?_, fun j hj => ?_, fun t ht => ?_⟩
  · rw [zU_n (by omega), zU_n (by omega), zU_n (by omega), h0 i (by omega)]
    exact h1 i hi
  · rw [zU_n (by omega), zU_n (by omega), zU_s, h5]
    rfl
  · rw [zU_s, h6]
    rfl
  · have hj' : j < s.2.2.2.2 + 1 := hj
    rw [zU_n (by omega)]
    by_cases hjk : j = s.2.2.2.2
    · subst hjk
      rw [zU_s]
      exact zU_s.symm
    · rw [zU_n (by omega), zU_n (by omega), h0 _ (by omega)]
      show _ = zU s.2.1 s.2.2.2.2 (w : Int) j
      rw [zU_n hjk]
      exact h4 j (by omega)
  · have ht' : t < s.2.2.2.1 + (ztk s.2.2.1).toNat := ht
    rw [zU_n (by omega), zU_n (by omega), zU_n (by omega)]
    exact hl t (by rw [zps_tk _ s3 s0]; exact ht')
theorem zbt_v (S : Nat → Int) (w i : Nat) : zbits S w / 2 ^ i % 2 = zB (zbt S w i) := by
  unfold zbt
  have hm := Int.emod_two_eq (zbits S w / 2 ^ i)
  rcases hm with q | q
  · rw [q]
    rfl
  · rw [q]
    rfl
/-- a stretch of a level -/
theorem zsb_at {s : ZS} (hs : zIs s) {v : Int} (hv : v = 0 ∨ v = 1) {m t : Nat} (ht : t < s.2.2.2.1 + m) : zB (zsb s.1 s.2.2.2.1 v m t) = if t < s.2.2.2.1 then zB (s.1 t) else v := by
  unfold zsb
  by_cases hte : t < s.2.2.2.1
  · rw [if_pos hte]
    rcases hv with q | q
    · rw [if_pos q]
      unfold zlow
      rw [decide_eq_false (show ¬ s.2.2.2.1 ≤ t by omega)]
      cases s.1 t <;> rfl
    · rw [if_neg (by omega)]
  · rw [if_neg hte]
    rcases hv with q | q
    · rw [if_pos q, q]
      unfold zlow
      rw [decide_eq_true (show s.2.2.2.1 ≤ t by omega), decide_eq_true (show t < s.2.2.2.1 + m by omega)]
      cases s.1 t <;> rfl
    · rw [if_neg (by omega), hs.2.2.1 t (by omega), q]
      rfl
theorem zMs_str {M M1 : Nat → Int} {s : ZS} (hs : zIs s) (h : zMs M s) {v : Int} (hv : v = 0 ∨ v = 1) {m : Nat} (h0 : ∀ j, j < 47 + s.2.2.2.1 → M1 j = M j) (hl : ∀ t, s.2.2.2.1 ≤ t → t < s.2.2.2.1 + m → M1 (47 + t) = v) {v5 : Int} (h5 : v5 = ((s.2.2.2.1 + m : Nat) : Int)) : zMs (zU M1 5 v5) (zSs s v m) := by
  obtain ⟨h1, h2, h3, h4, h55⟩ := h
  have he : s.2.2.2.1 ≤ 1500 := hs.1
  have hk : 40 * s.2.2.2.2 ≤ s.2.2.2.1 := hs.2.1
  refine ⟨fun i hi => ?_, ?_, ?_, fun j hj => ?_, fun t ht => ?_⟩
  · rw [zU_n (by omega), h0 i (by omega)]
    exact h1 i hi
  · rw [zU_s, h5]
    rfl
  · rw [zU_n (by omega), h0 6 (by omega)]
    exact h3
  · have hj' : j < s.2.2.2.2 := hj
    rw [zU_n (by omega), h0 _ (by omega)]
    exact h4 j hj
  · have ht' : t < s.2.2.2.1 + m := ht
    rw [zU_n (by omega)]
    show _ = zB (zsb s.1 s.2.2.2.1 v m t)
    rw [zsb_at hs hv ht']
    by_cases hte : t < s.2.2.2.1
    · rw [if_pos hte, h0 _ (by omega)]
      exact h55 t hte
    · rw [if_neg hte]
      exact hl t (by omega) ht'
