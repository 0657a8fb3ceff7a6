/-! THE LAW: what it receives, tick by tick -/
theorem zho_u3 {K0 K1 K2 K3 K3' K4 : Nat → Int} {L : List ZIt} (h : zho K0 K1 K2 K3 K4 L) (hc : ∀ j, ¬ j = L.length → K3' j = K3 j) : zho K0 K1 K2 K3' K4 L := fun i it hi => by
  have hlt := (List.getElem?_eq_some_iff.mp hi).1
  obtain ⟨a, b, c, d, e⟩ := h i it hi
  exact ⟨a, b, c, (hc i (by omega)).trans d, e⟩
theorem zac_e (b : Nat → Bool) (v : Int) (t r : Nat) : ∀ n, zac b v t r n % 2 = 0
  | 0 => rfl
  | n + 1 => by
    have h := zac_e b v t r n
    show (zac b v t r n + zvo b v (t + (n + 1) * r) r * 2 ^ (n + 1)) % 2 = 0
    rw [Nat.pow_succ, ← Nat.mul_assoc]
    omega
theorem zac_h (b : Nat → Bool) (v : Int) (t r n : Nat) : zor ((zac b v t r n / 2 : Nat) : Int) (((zvo b v (t + (n + 1) * r) r : Nat) : Int) * 2 ^ n) = ((zac b v t r (n + 1) / 2 : Nat) : Int) := by
  have hb := zac_b b v t r n
  rw [Nat.pow_succ] at hb
  rw [zor_add n (by omega) (by have : zac b v t r n / 2 < 2 ^ n := by omega
                               exact_mod_cast this) (by omega)]
  have h : zac b v t r (n + 1) / 2 = zac b v t r n / 2 + zvo b v (t + (n + 1) * r) r * 2 ^ n := by
    show (zac b v t r n + zvo b v (t + (n + 1) * r) r * 2 ^ (n + 1)) / 2 = _
    rw [Nat.pow_succ, ← Nat.mul_assoc]
    omega
  rw [h]
  push_cast
  rfl
/-- the kind, by word, parity and stop -/
theorem zko_9 {A y : Nat} (hA : A < 512) (he : A % 2 = 0) (hy : y ≤ 1) : (zko (A + y * 2 ^ 9) 9 0 = 3 ∧ A / 2 = 0 ∧ y = 0) ∨ (zko (A + y * 2 ^ 9) 9 0 = 2 ∧ ¬ A / 2 = 0 ∧ y = 0) ∨ (zko (A + y * 2 ^ 9) 9 0 = 0 ∧ y = 1) := by
  unfold zko
  by_cases h0 : A + y * 2 ^ 9 = 0
  · rw [if_pos h0]
    exact Or.inl ⟨rfl, by omega, by omega⟩
  · rw [if_neg h0]
    by_cases h1 : (A + y * 2 ^ 9) / 2 ^ 9 % 2 = 0
    · rw [if_pos h1]
      exact Or.inr (Or.inl ⟨rfl, by omega, by omega⟩)
    · rw [if_neg h1, if_neg (fun q => q.1 rfl)]
      exact Or.inr (Or.inr ⟨rfl, by omega⟩)
theorem zko_10 {A x y : Nat} {q : Int} (hq : ¬ q = 0) (hA : A < 512) (he : A % 2 = 0) (hx : x ≤ 1) (hy : y ≤ 1) : (zko (A + x * 2 ^ 9 + y * 2 ^ 10) 10 q = 3 ∧ A / 2 = 0 ∧ x = 0 ∧ y = 0) ∨ (zko (A + x * 2 ^ 9 + y * 2 ^ 10) 10 q = 2 ∧ ¬ (A / 2 = 0 ∧ x = 0) ∧ y = 0) ∨ (zko (A + x * 2 ^ 9 + y * 2 ^ 10) 10 q = 1 ∧ y = 1 ∧ ¬ (x : Int) = zpar q (A / 2)) ∨ (zko (A + x * 2 ^ 9 + y * 2 ^ 10) 10 q = 0 ∧ y = 1 ∧ (x : Int) = zpar q (A / 2)) := by
  unfold zko
  by_cases h0 : A + x * 2 ^ 9 + y * 2 ^ 10 = 0
  · rw [if_pos h0]
    exact Or.inl ⟨rfl, by omega, by omega, by omega⟩
  · rw [if_neg h0]
    by_cases h1 : (A + x * 2 ^ 9 + y * 2 ^ 10) / 2 ^ 10 % 2 = 0
    · rw [if_pos h1]
      exact Or.inr (Or.inl ⟨rfl, by omega, by omega⟩)
    · rw [if_neg h1]
      have e1 : (A + x * 2 ^ 9 + y * 2 ^ 10) / 2 ^ 9 % 2 = x := by omega
      have e2 : (A + x * 2 ^ 9 + y * 2 ^ 10) / 2 % 256 = A / 2 := by omega
      rw [e1, e2]
      by_cases h2 : (x : Int) = zpar q (A / 2)
      · rw [if_neg (fun z => z.2 h2)]
        exact Or.inr (Or.inr (Or.inr ⟨rfl, by omega, h2⟩))
      · rw [if_pos ⟨hq, h2⟩]
        exact Or.inr (Or.inr (Or.inl ⟨rfl, by omega, h2⟩))
theorem zst9_0 {S : Nat → Int} (h : S 2 = 0) : zst9 S = 9 := if_pos h
theorem zst9_1 {S : Nat → Int} (h : ¬ S 2 = 0) : zst9 S = 10 := if_neg h
/-- behind a break the next fall is the one behind the first high tick -/
theorem znf_brk {b : Nat → Bool} {e a j : Nat} (hb : ∀ t, e ≤ t → b t = true) (hj : a ≤ j) (hl : ∀ i, a ≤ i → i < j → b i = false) (hh : b j = true) : znf b e j = znf b e (a + 1) := by
  by_cases ha : a = j
  · subst ha
    by_cases hae : a < e
    · exact znf_step hae (by unfold zfall; rw [hh]; rfl)
    · rw [znf_end (by omega), znf_end (by omega)]
  · have h := znf_skip (b := b) (e := e) (j - (a + 1)) (a + 1) (fun i h1 h2 _ => by
      unfold zfall
      rw [hl (i - 1) (by omega) (by omega), decide_eq_false (show ¬ i = 0 by omega), Bool.or_false, Bool.and_false])
    rw [h, show a + 1 + (j - (a + 1)) = j by omega]
theorem zfall_t {b : Nat → Bool} {t : Nat} (h : ¬ zB (zfall b t) = 0) : zfall b t = true := by
  cases hf : zfall b t
  · rw [hf] at h
    exact absurd rfl h
  · rfl
theorem zfall_f {b : Nat → Bool} {t : Nat} (h : zB (zfall b t) = 0) : zfall b t = false := by
  cases hf : zfall b t
  · rfl
  · rw [hf] at h
    exact absurd h (by decide)
theorem zlv_0 {b : Nat → Bool} {t : Nat} (h : zlv b (t : Int) = 0) : b t = false := by
  rw [zlv_nat] at h
  cases hf : b t
  · rfl
  · rw [hf] at h
    exact absurd h (by decide)
theorem zlv_1 {b : Nat → Bool} {t : Nat} (h : ¬ zlv b (t : Int) = 0) : b t = true := by
  rw [zlv_nat] at h
  cases hf : b t
  · rw [hf] at h
    exact absurd rfl h
  · rfl
theorem zrc_step {b : Nat → Bool} {S : Nat → Int} {e r n t : Nat} (h : t < e) (hf : zfall b t = false) : zrc b S e r n t = zrc b S e r n (t + 1) := zrc_znf (znf_step h hf)
theorem zwell_len {L : List ZIt} {W : Nat → Int} {k : Nat} (h : ¬ L.length = k) : ¬ zwell L W k := fun q => h q.1
/-! THE LAW: its counts of what is received -/
theorem zcn_pre {P : ZIt → Bool} {L : List ZIt} {it : ZIt} : ∀ n, n ≤ L.length → zcn P (L ++ [it]) n = zcn P L n
  | 0, _ => rfl
  | n + 1, h => by
    show zcn P (L ++ [it]) n + _ = zcn P L n + _
    rw [zcn_pre n (by omega), List.getElem?_append_left (by omega)]
theorem zds_pre {L : List ZIt} {it : ZIt} : ∀ n, n ≤ L.length → zds (L ++ [it]) n = zds L n
  | 0, _ => rfl
  | n + 1, h => by
    show zds (L ++ [it]) n + _ = zds L n + _
    rw [zds_pre n (by omega), List.getElem?_append_left (by omega)]
theorem zds_app (L : List ZIt) (it : ZIt) : zds (L ++ [it]) (L ++ [it]).length = zds L L.length + it.2.2.2.1 := by
  rw [List.length_append]
  show zds (L ++ [it]) (L.length + 1) = _
  rw [zds_s (it := it) (by rw [List.getElem?_append_right (Nat.le_refl _), Nat.sub_self]; rfl), zds_pre _ (Nat.le_refl _)]
theorem zkn_app (L : List ZIt) (it : ZIt) (k : Int) : zkn (L ++ [it]) k = zkn L k + (if it.1 = k then 1 else 0) := by
  unfold zkn
  rw [List.length_append]
  show ((zcn (fun it => decide (it.1 = k)) (L ++ [it]) (L.length + 1) : Nat) : Int) = _
  rw [zcn_s (it := it) (by rw [List.getElem?_append_right (Nat.le_refl _), Nat.sub_self]; rfl), zcn_pre _ (Nat.le_refl _)]
  by_cases h : it.1 = k
  · rw [if_pos h, decide_eq_true h]
    push_cast
    rfl
  · rw [if_neg h, decide_eq_false h]
    push_cast
    rfl
/-- f: how many, of each kind, false starts, doubtful bits -/
def zFr (f : Nat → Int) (L : List ZIt) (fs : Nat) : Prop := f 0 = (L.length : Int) ∧ (∀ k : Nat, k < 4 → f (1 + k) = zkn L (k : Int)) ∧ f 5 = (fs : Int) ∧ f 6 = (zds L L.length : Int)
theorem zFr_0 {f : Nat → Int} (h : ∀ j, j < 7 → f j = 0) : zFr f [] 0 := ⟨h 0 (by decide), fun k hk => (h (1 + k) (by omega)).trans rfl, h 5 (by decide), h 6 (by decide)⟩
theorem zFr_add {f f' : Nat → Int} {L : List ZIt} {fs : Nat} {it : ZIt} (h : zFr f L fs) (h0 : f' 0 = f 0 + 1) (hk : ∀ j : Nat, 1 ≤ j → j ≤ 4 → f' j = f j + (if it.1 = (j : Int) - 1 then 1 else 0)) (h5 : f' 5 = f 5) (h6 : f' 6 = f 6 + (it.2.2.2.1 : Int)) : zFr f' (L ++ [it]) fs := by
  obtain ⟨g0, g1, g5, g6⟩ := h
  refine ⟨?_, fun k hk4 => ?_, by rw [h5, g5], ?_⟩
  · rw [h0, g0, List.length_append]
    push_cast
    rfl
  · rw [hk (1 + k) (by omega) (by omega), g1 k hk4, zkn_app, show (((1 + k : Nat) : Int) - 1) = (k : Int) by omega]
  · rw [h6, g6, zds_app]
    push_cast
    rfl
theorem zFr_fs {f : Nat → Int} {L : List ZIt} {fs : Nat} (h : zFr f L fs) : zFr (zU f 5 (f 5 + 1)) L (fs + 1) := by
  obtain ⟨g0, g1, g5, g6⟩ := h
  refine ⟨(zU_n (by decide)).trans g0, fun k hk => (zU_n (by omega)).trans (g1 k hk), ?_, (zU_n (by decide)).trans g6⟩
  rw [zU_s, g5]
  push_cast
  rfl
/-- g: what one of them is -/
def zGr (g : Nat → Int) (L : List ZIt) (rank : Nat) : Prop := ∀ it, L[rank]? = some it → ∀ w, w < 5 → g w = zfld it w
theorem zGr_0 (g : Nat → Int) (rank : Nat) : zGr g [] rank := fun it h => by simp at h
theorem zGr_no {g : Nat → Int} {L : List ZIt} {rank : Nat} {it : ZIt} (h : zGr g L rank) (hr : ¬ L.length = rank) : zGr g (L ++ [it]) rank := by
  intro x hx
  by_cases hl : rank < L.length
  · rw [List.getElem?_append_left hl] at hx
    exact h x hx
  · have hlt := (List.getElem?_eq_some_iff.mp hx).1
    rw [List.length_append] at hlt
    have : rank < L.length + 1 := hlt
    omega
theorem zGr_yes {g : Nat → Int} {L : List ZIt} {rank : Nat} {it : ZIt} (hr : L.length = rank) (h : ∀ w, w < 5 → g w = zfld it w) : zGr g (L ++ [it]) rank := by
  intro x hx
  rw [List.getElem?_append_right (by omega), show rank - L.length = 0 by omega] at hx
  have : it = x := Option.some.inj hx
  subst this
  exact h
/-- so far all is well -/
def zpw (L : List ZIt) (W : Nat → Int) (k : Nat) : Prop := L.length ≤ k ∧ ∀ i it, L[i]? = some it → it.1 = 0 ∧ (it.2.1 : Int) = W i
theorem zpw_0 (W : Nat → Int) (k : Nat) : zpw [] W k := ⟨Nat.zero_le _, fun i it h => by simp at h⟩
theorem zpw_y {L : List ZIt} {W : Nat → Int} {k : Nat} {it : ZIt} (h : zpw L W k) (h1 : L.length < k) (h2 : it.1 = 0) (h3 : (it.2.1 : Int) = W L.length) : zpw (L ++ [it]) W k := by
  refine ⟨by rw [List.length_append]; exact h1, fun i x hx => ?_⟩
  by_cases hl : i < L.length
  · rw [List.getElem?_append_left hl] at hx
    exact h.2 i x hx
  · have hlt := (List.getElem?_eq_some_iff.mp hx).1
    rw [List.length_append] at hlt
    have hlt2 : i < L.length + 1 := hlt
    obtain rfl : i = L.length := by omega
    rw [List.getElem?_append_right (Nat.le_refl _), Nat.sub_self] at hx
    have : it = x := Option.some.inj hx
    subst this
    exact ⟨h2, h3⟩
theorem zpw_n {L : List ZIt} {W : Nat → Int} {k : Nat} {it : ZIt} (h : zpw (L ++ [it]) W k) : zpw L W k ∧ L.length < k ∧ it.1 = 0 ∧ (it.2.1 : Int) = W L.length := by
  obtain ⟨h1, h2⟩ := h
  rw [List.length_append] at h1
  have h1' : L.length + 1 ≤ k := h1
  refine ⟨⟨by omega, fun i x hx => h2 i x ?_⟩, by omega, h2 L.length it ?_⟩
  · rw [List.getElem?_append_left (List.getElem?_eq_some_iff.mp hx).1]
    exact hx
  · rw [List.getElem?_append_right (Nat.le_refl _), Nat.sub_self]
    rfl
def zpb2 (z : Int) (L : List ZIt) (W : Nat → Int) (k : Nat) : Prop := (z = 1 ∧ zpw L W k) ∨ (z = 0 ∧ ¬ zpw L W k)
theorem zpw_well {L : List ZIt} {W : Nat → Int} {k : Nat} : zwell L W k ↔ zpw L W k ∧ L.length = k := ⟨fun h => ⟨⟨Nat.le_of_eq h.1, h.2⟩, h.1⟩, fun h => ⟨h.2, h.1.2⟩⟩
/-- the bits told so far, the start among them -/
def ztl (b : Nat → Bool) (v : Int) (t r : Nat) : Nat → Nat
  | 0 => 0
  | n + 1 => zac b v t r n
def zdl (b : Nat → Bool) (t r : Nat) : Nat → Nat
  | 0 => 0
  | n + 1 => zdc b t r n
theorem ztl_b (b : Nat → Bool) (v : Int) (t r : Nat) {n : Nat} (hn : n ≤ 11) : ztl b v t r n < 2048 := by
  cases n with
  | zero => show 0 < 2048; omega
  | succ n => exact zac_2048 b v t r (by omega)
theorem zdl_b (b : Nat → Bool) (t r n : Nat) : zdl b t r n ≤ n := by
  cases n with
  | zero => exact Nat.le_refl 0
  | succ n => exact zdc_b b t r n
theorem ztl_s {b : Nat → Bool} {v : Int} {t r : Nat} (h0 : zvo b v t r = 0) (n : Nat) : zor ((ztl b v t r n : Nat) : Int) (((zvo b v (t + n * r) r : Nat) : Int) * 2 ^ n) = ((ztl b v t r (n + 1) : Nat) : Int) := by
  cases n with
  | zero =>
    rw [show t + 0 * r = t by omega, h0]
    simp [zor, ztl, zac]
  | succ n => exact zor_ac b v t r n
theorem zdl_s (b : Nat → Bool) (t r n : Nat) : zdl b t r n + zdo b (t + n * r) r = zdl b t r (n + 1) := by
  cases n with
  | zero =>
    rw [show t + 0 * r = t by omega]
    show 0 + zdo b t r = zdo b t r
    omega
  | succ n => rfl
/-- a bit's looks as one number -/
def zlk (b : Nat → Bool) (v : Int) (t r : Nat) : Nat := 10 * zvo b v t r + zsm b t r
theorem zlk_b (b : Nat → Bool) (v : Int) (t r : Nat) : zlk b v t r ≤ 13 ∧ zlk b v t r / 10 = zvo b v t r ∧ zlk b v t r % 10 = zsm b t r := by
  have h1 := zvo_b b v t r
  have h2 := zsm_b b t r
  unfold zlk
  omega
theorem zdo_y {b : Nat → Bool} {t r : Nat} (h : zsm b t r = 1 ∨ zsm b t r = 2) : zdo b t r = 1 := by
  unfold zdo
  exact if_neg (by omega)
theorem zdo_n {b : Nat → Bool} {t r : Nat} (h : ¬ zsm b t r = 1) (h2 : ¬ zsm b t r = 2) : zdo b t r = 0 := by
  have := zsm_b b t r
  unfold zdo
  exact if_pos (by omega)
