/-! THE REFERENCE: all that an object holds -/
def zF11 {α : Type} (a0 a1 a2 a3 a4 a5 a6 a7 a8 a9 a10 : α) : Nat → α := fun i => match i with
  | 0 => a0
  | 1 => a1
  | 2 => a2
  | 3 => a3
  | 4 => a4
  | 5 => a5
  | 6 => a6
  | 7 => a7
  | 8 => a8
  | 9 => a9
  | _ => a10
/-- J: its rows (0 state, 1 history, 2 snapshot); a: what they stand for -/
def zR5 (J : Nat → Nat → Int) (a : ZA) : Prop := zAI a ∧ a.2.1.length ≤ 4 ∧ zMs (J 0) a.1 ∧ zHs (J 1) a.2.1 ∧ (a.2.2.1 = 1 → zMs (J 2) a.2.2.2.1)
theorem zpush_len {l : List ZS} (s : ZS) (h : l.length ≤ 4) : (zpush l s).length ≤ 4 := by
  unfold zpush
  rw [List.length_append]
  show _ + 1 ≤ 4
  split
  · rw [List.length_drop]
    omega
  · omega
theorem zpush_I {l : List ZS} {s : ZS} (h : ∀ x ∈ l, zIs x) (hs : zIs s) : ∀ x ∈ zpush l s, zIs x := by
  intro x hx
  unfold zpush at hx
  rcases List.mem_append.mp hx with q | q
  · split at q
    · exact h x (List.mem_of_mem_drop q)
    · exact h x q
  · rcases List.mem_singleton.mp q with rfl
    exact hs
theorem zR5_rec {J J' : Nat → Nat → Int} {a : ZA} {s' : ZS} (h : zR5 J a) (hs : zIs s') (hM : zMs (J' 0) s') (hH : zHs (J' 1) (zpush a.2.1 a.1)) (hP : J' 2 = J 2) : zR5 J' (zrec a s') := by
  obtain ⟨⟨h1, h2, h3, h4, h5, h6⟩, k1, k2, k3, k4⟩ := h
  exact ⟨⟨hs, zpush_I h2 h1, h3, h4, h5, h6⟩, zpush_len _ k1, hM, hH, fun q => by rw [hP]; exact k4 q⟩
theorem zR5_same {J J' : Nat → Nat → Int} {a : ZA} (h : zR5 J a) (h0 : J' 0 = J 0) (h1 : J' 1 = J 1) (h2 : J' 2 = J 2) : zR5 J' a := by
  unfold zR5
  rw [h0, h1, h2]
  exact h
theorem zIs_clear {s : ZS} (h : zIs s) : zIs (zSc s) := by
  obtain ⟨he, hk, hb, s0, s1, s2, s3, s4, hw⟩ := h
  exact ⟨Nat.zero_le _, Nat.le_refl _, fun _ _ => rfl, s0, s1, s2, s3, s4, fun j hj => absurd hj (Nat.not_lt_zero j)⟩
theorem zIs_se {s : ZS} (h : zIs s) {i : Nat} (hi : i < 5) {z : Int} (h1 : zF1 i ≤ z) (h2 : z ≤ zF2 i) : zIs (zSe s i z) := by
  obtain ⟨he, hk, hb, s0, s1, s2, s3, s4, hw⟩ := h
  rcases (show i = 0 ∨ i = 1 ∨ i = 2 ∨ i = 3 ∨ i = 4 by omega) with q | q | q | q | q
  · subst q
    exact ⟨he, hk, hb, ⟨h1, h2⟩, s1, s2, s3, s4, hw⟩
  · subst q
    exact ⟨he, hk, hb, s0, ⟨h1, h2⟩, s2, s3, s4, hw⟩
  · subst q
    exact ⟨he, hk, hb, s0, s1, ⟨h1, h2⟩, s3, s4, hw⟩
  · subst q
    exact ⟨he, hk, hb, s0, s1, s2, ⟨h1, h2⟩, s4, hw⟩
  · subst q
    exact ⟨he, hk, hb, s0, s1, s2, s3, ⟨h1, h2⟩, hw⟩
/-- a row cleared from 5 on, as far as i -/
def zzr (M : Nat → Int) (i : Nat) : Nat → Int := fun j => if 5 ≤ j ∧ j < i then 0 else M j
theorem zzr_5 (M : Nat → Int) : zzr M 5 = M := funext fun j => if_neg (by omega)
theorem zzr_s (M : Nat → Int) {i : Nat} (h : 5 ≤ i) : zU (zzr M i) i 0 = zzr M (i + 1) := by
  funext j
  unfold zU zzr
  by_cases q : j = i
  · rw [if_pos q, if_pos ⟨by omega, by omega⟩]
  · by_cases q2 : 5 ≤ j ∧ j < i
    · rw [if_neg q, if_pos q2, if_pos ⟨by omega, by omega⟩]
    · rw [if_neg q, if_neg q2, if_neg (by omega)]
theorem zxUnd {a : ZA} (h : ¬ a.2.1.length = 0) : ∃ (u : List ZS) (s : ZS), a.2.1 = u ++ [s] := by
  rcases List.eq_nil_or_concat a.2.1 with q | ⟨u, s, q⟩
  · exact absurd (by rw [q]; rfl) h
  · exact ⟨u, s, by rw [q, List.concat_eq_append]⟩
theorem zzr_l (M : Nat → Int) {i j : Nat} (h : j < 5) : zzr M i j = M j := if_neg (by omega)
theorem zzr_z (M : Nat → Int) {i j : Nat} (h : 5 ≤ j) (h2 : j < i) : zzr M i j = 0 := if_pos ⟨h, h2⟩
