/-! THE REFERENCE: what it receives, tick by tick -/
theorem zU_acc (K : Nat → Int) (c : Nat) (a d : Int) : ∀ j, zU (zU K c a) c (zU K c a c + d) j = zU K c (a + d) j := fun j => by
  unfold zU
  split
  · rw [if_pos rfl]
  · rfl
theorem zho_u3 {K0 K1 K2 K3 K3' K4 : Nat → Int} {L : List ZIt} (h : zho K0 K1 K2 K3 K4 L) (hc : ∀ j, ¬ j = L.length → K3' j = K3 j) : zho K0 K1 K2 K3' K4 L := fun i it hi => by
  have hlt := (List.getElem?_eq_some_iff.mp hi).1
  obtain ⟨a, b, c, d, e⟩ := h i it hi
  exact ⟨a, b, c, (hc i (by omega)).trans d, e⟩
theorem zac_e (b : Nat → Bool) (v : Int) (t r : Nat) : ∀ n, zac b v t r n % 2 = 0
  | 0 => rfl
  | n + 1 => by
    have h := zac_e b v t r n
    show (zac b v t r n + zvo b v (t + (n + 1) * r) r * 2 ^ (n + 1)) % 2 = 0
    rw [Nat.pow_succ, ← Nat.mul_assoc]
    omega
theorem zac_h (b : Nat → Bool) (v : Int) (t r n : Nat) : zor ((zac b v t r n / 2 : Nat) : Int) (((zvo b v (t + (n + 1) * r) r : Nat) : Int) * 2 ^ n) = ((zac b v t r (n + 1) / 2 : Nat) : Int) := by
  have hb := zac_b b v t r n
  rw [Nat.pow_succ] at hb
  rw [zor_add n (by omega) (by have : zac b v t r n / 2 < 2 ^ n := by omega
                               exact_mod_cast this) (by omega)]
  have h : zac b v t r (n + 1) / 2 = zac b v t r n / 2 + zvo b v (t + (n + 1) * r) r * 2 ^ n := by
    show (zac b v t r n + zvo b v (t + (n + 1) * r) r * 2 ^ (n + 1)) / 2 = _
    rw [Nat.pow_succ, ← Nat.mul_assoc]
    omega
  rw [h]
  push_cast
  rfl
/-- the kind, by word, parity and stop -/
theorem zko_9 {A y : Nat} (hA : A < 512) (he : A % 2 = 0) (hy : y ≤ 1) : (zko (A + y * 2 ^ 9) 9 0 = 3 ∧ A / 2 = 0 ∧ y = 0) ∨ (zko (A + y * 2 ^ 9) 9 0 = 2 ∧ ¬ A / 2 = 0 ∧ y = 0) ∨ (zko (A + y * 2 ^ 9) 9 0 = 0 ∧ y = 1) := by
  unfold zko
  by_cases h0 : A + y * 2 ^ 9 = 0
  · rw [if_pos h0]
    exact Or.inl ⟨rfl, by omega, by omega⟩
  · rw [if_neg h0]
    by_cases h1 : (A + y * 2 ^ 9) / 2 ^ 9 % 2 = 0
    · rw [if_pos h1]
      exact Or.inr (Or.inl ⟨rfl, by omega, by omega⟩)
    · rw [if_neg h1, if_neg (fun q => q.1 rfl)]
      exact Or.inr (Or.inr ⟨rfl, by omega⟩)
theorem zko_10 {A x y : Nat} {q : Int} (hq : ¬ q = 0) (hA : A < 512) (he : A % 2 = 0) (hx : x ≤ 1) (hy : y ≤ 1) : (zko (A + x * 2 ^ 9 + y * 2 ^ 10) 10 q = 3 ∧ A / 2 = 0 ∧ x = 0 ∧ y = 0) ∨ (zko (A + x * 2 ^ 9 + y * 2 ^ 10) 10 q = 2 ∧ ¬ (A / 2 = 0 ∧ x = 0) ∧ y = 0) ∨ (zko (A + x * 2 ^ 9 + y * 2 ^ 10) 10 q = 1 ∧ y = 1 ∧ ¬ (x : Int) = zpar q (A / 2)) ∨ (zko (A + x * 2 ^ 9 + y * 2 ^ 10) 10 q = 0 ∧ y = 1 ∧ (x : Int) = zpar q (A / 2)) := by
  unfold zko
  by_cases h0 : A + x * 2 ^ 9 + y * 2 ^ 10 = 0
  · rw [if_pos h0]
    exact Or.inl ⟨rfl, by omega, by omega, by omega⟩
  · rw [if_neg h0]
    by_cases h1 : (A + x * 2 ^ 9 + y * 2 ^ 10) / 2 ^ 10 % 2 = 0
    · rw [if_pos h1]
      exact Or.inr (Or.inl ⟨rfl, by omega, by omega⟩)
    · rw [if_neg h1]
      have e1 : (A + x * 2 ^ 9 + y * 2 ^ 10) / 2 ^ 9 % 2 = x := by omega
      have e2 : (A + x * 2 ^ 9 + y * 2 ^ 10) / 2 % 256 = A / 2 := by omega
      rw [e1, e2]
      by_cases h2 : (x : Int) = zpar q (A / 2)
      · rw [if_neg (fun z => z.2 h2)]
        exact Or.inr (Or.inr (Or.inr ⟨rfl, by omega, h2⟩))
      · rw [if_pos ⟨hq, h2⟩]
        exact Or.inr (Or.inr (Or.inl ⟨rfl, by omega, h2⟩))
theorem zst9_0 {S : Nat → Int} (h : S 2 = 0) : zst9 S = 9 := if_pos h
theorem zst9_1 {S : Nat → Int} (h : ¬ S 2 = 0) : zst9 S = 10 := if_neg h
/-- behind a break the next fall is the one behind the first high tick -/
theorem znf_brk {b : Nat → Bool} {e a j : Nat} (hb : ∀ t, e ≤ t → b t = true) (hj : a ≤ j) (hl : ∀ i, a ≤ i → i < j → b i = false) (hh : b j = true) : znf b e j = znf b e (a + 1) := by
  by_cases ha : a = j
  · subst ha
    by_cases hae : a < e
    · exact znf_step hae (by unfold zfall; rw [hh]; rfl)
    · rw [znf_end (by omega), znf_end (by omega)]
  · have h := znf_skip (b := b) (e := e) (j - (a + 1)) (a + 1) (fun i h1 h2 _ => by
      unfold zfall
      rw [hl (i - 1) (by omega) (by omega), decide_eq_false (show ¬ i = 0 by omega), Bool.or_false, Bool.and_false])
    rw [h, show a + 1 + (j - (a + 1)) = j by omega]
theorem zfall_t {b : Nat → Bool} {t : Nat} (h : ¬ zB (zfall b t) = 0) : zfall b t = true := by
  cases hf : zfall b t
  · rw [hf] at h
    exact absurd rfl h
  · rfl
theorem zfall_f {b : Nat → Bool} {t : Nat} (h : zB (zfall b t) = 0) : zfall b t = false := by
  cases hf : zfall b t
  · rfl
  · rw [hf] at h
    exact absurd h (by decide)
theorem zlv_0 {b : Nat → Bool} {t : Nat} (h : zlv b (t : Int) = 0) : b t = false := by
  rw [zlv_nat] at h
  cases hf : b t
  · rfl
  · rw [hf] at h
    exact absurd h (by decide)
theorem zlv_1 {b : Nat → Bool} {t : Nat} (h : ¬ zlv b (t : Int) = 0) : b t = true := by
  rw [zlv_nat] at h
  cases hf : b t
  · rw [hf] at h
    exact absurd rfl h
  · rfl
theorem zrc_step {b : Nat → Bool} {S : Nat → Int} {e r n t : Nat} (h : t < e) (hf : zfall b t = false) : zrc b S e r n t = zrc b S e r n (t + 1) := zrc_znf (znf_step h hf)
theorem zwell_len {L : List ZIt} {W : Nat → Int} {k : Nat} (h : ¬ L.length = k) : ¬ zwell L W k := fun q => h q.1
