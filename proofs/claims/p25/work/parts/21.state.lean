/-! THE STATE: what its methods compute -/
/-- what always holds of a state: levels, words, settings, end, count of words -/
def zI (b : Nat → Bool) (W S : Nat → Int) (e k : Nat) : Prop := e ≤ 1500 ∧ 40 * k ≤ e ∧ (∀ t, e ≤ t → b t = true) ∧ (64 ≤ S 0 ∧ S 0 ≤ 640) ∧ (4 ≤ S 1 ∧ S 1 ≤ 40) ∧ (0 ≤ S 2 ∧ S 2 ≤ 2) ∧ (1 ≤ S 3 ∧ S 3 ≤ 2) ∧ (0 ≤ S 4 ∧ S 4 ≤ 1) ∧ ∀ j, j < k → 0 ≤ W j ∧ W j ≤ 255
def zwr (W : Nat → Int) (k : Nat) (z : Int) : Int := if 0 ≤ z ∧ z < k then W z.toNat else -5
def zbn (S : Nat → Int) : Int := 9 + (if S 2 = 0 then 0 else 1) + S 3
def ztk (S : Nat → Int) : Int := zbn S * S 0 / 16
theorem zbn_b {S : Nat → Int} (h : 1 ≤ S 3 ∧ S 3 ≤ 2) : 10 ≤ zbn S ∧ zbn S ≤ 12 := by
  unfold zbn
  split <;> omega
theorem zmul_b {a s : Int} {m : Int} (ha : 0 ≤ a) (hm : a ≤ m) (hs : 64 ≤ s ∧ s ≤ 640) : 0 ≤ a * s ∧ a * s ≤ m * 640 := by
  constructor
  · exact Int.mul_nonneg ha (by omega)
  · exact Int.le_trans (Int.mul_le_mul_of_nonneg_right hm (by omega)) (Int.mul_le_mul_of_nonneg_left hs.2 (by omega))
theorem zmul_l {a s : Int} {m : Int} (hm0 : 0 ≤ m) (hm : m ≤ a) (hs : 64 ≤ s ∧ s ≤ 640) : m * 64 ≤ a * s := 
  Int.le_trans (Int.mul_le_mul_of_nonneg_left hs.1 hm0) (Int.mul_le_mul_of_nonneg_right hm (by omega))
theorem ztk_b {S : Nat → Int} (h3 : 1 ≤ S 3 ∧ S 3 ≤ 2) (h0 : 64 ≤ S 0 ∧ S 0 ≤ 640) : 40 ≤ ztk S ∧ ztk S ≤ 480 := by
  have h := zbn_b h3
  have h1 := zmul_b (by omega) h.2 h0
  have h2 := zmul_l (m := 10) (by omega) h.1 h0
  unfold ztk
  omega
/-- bits that are 1 among the first n of a number -/
def zon (w : Nat) : Nat → Nat
  | 0 => 0
  | n + 1 => zon w n + w / 2 ^ n % 2
def zpar (p : Int) (w : Nat) : Int := if p = 1 then ((zon w 8 % 2 : Nat) : Int) else 1 - ((zon w 8 % 2 : Nat) : Int)
theorem zpar_b (p : Int) (w : Nat) : 0 ≤ zpar p w ∧ zpar p w ≤ 1 := by
  unfold zpar
  split <;> omega
/-- the bits of a word as they are sent, as a number -/
def zbits (S : Nat → Int) (w : Nat) : Int := if S 2 = 0 then 2 * (w : Int) + 1536 else 2 * (w : Int) + 512 * zpar (S 2) w + 3072
theorem zbits_b (S : Nat → Int) {w : Nat} (h : w ≤ 255) : 0 ≤ zbits S w ∧ zbits S w ≤ 4095 := by
  have := zpar_b (S 2) w
  unfold zbits
  split <;> omega
theorem zor_add {a c : Int} (m : Nat) (ha : 0 ≤ a) (ha2 : a < 2 ^ m) (hc : 0 ≤ c) : zor a (c * 2 ^ m) = a + c * 2 ^ m := by
  obtain ⟨x, rfl⟩ := Int.eq_ofNat_of_zero_le ha
  obtain ⟨y, rfl⟩ := Int.eq_ofNat_of_zero_le hc
  have h1 : x < 2 ^ m := by exact_mod_cast ha2
  unfold zor
  have e : ((y : Int) * 2 ^ m).toNat = y <<< m := by
    rw [Nat.shiftLeft_eq]
    have : ((y : Int) * 2 ^ m) = ((y * 2 ^ m : Nat) : Int) := by push_cast; rfl
    rw [this, Int.toNat_natCast]
  rw [e, Int.toNat_natCast, Nat.or_comm, ← Nat.shiftLeft_add_eq_or_of_lt h1, Nat.shiftLeft_eq]
  push_cast
  omega
theorem zand1 {a : Int} (ha : 0 ≤ a) : zand a 1 = a % 2 := by
  obtain ⟨x, rfl⟩ := Int.eq_ofNat_of_zero_le ha
  unfold zand
  rw [Int.toNat_natCast, show (1 : Int).toNat = 1 from rfl, Nat.and_one_is_mod]
  omega
def jp1 (x : Int32) : Int32 := x - ((x.toUInt32 >>> ((iI 1).toUInt32 &&& Int32.toUInt32 31)).toInt32 &&& 1431655765)
def jp2 (x : Int32) : Int32 := (x &&& 858993459) + ((x.toUInt32 >>> ((iI 2).toUInt32 &&& Int32.toUInt32 31)).toInt32 &&& 858993459)
def jp3 (x : Int32) : Int32 := (x + (x.toUInt32 >>> ((iI 4).toUInt32 &&& Int32.toUInt32 31)).toInt32) &&& 252645135
def jp4 (x : Int32) : Int32 := x + (x.toUInt32 >>> ((iI 8).toUInt32 &&& Int32.toUInt32 31)).toInt32
def jp5 (x : Int32) : Int32 := x + (x.toUInt32 >>> ((iI 16).toUInt32 &&& Int32.toUInt32 31)).toInt32
def jpi (x : Int32) : Int32 := jp5 (jp4 (jp3 (jp2 (jp1 x)))) &&& iI 63
theorem jpi_all : ∀ w, w < 256 → jpi (iI ((w : Nat) : Int)) = iI ((zon w 8 : Nat) : Int) := by decide +kernel
def jl1 (x : Int64) : Int64 := x - (zsr x 1 &&& 6148914691236517205)
def jl2 (x : Int64) : Int64 := (x &&& 3689348814741910323) + (zsr x 2 &&& 3689348814741910323)
def jl3 (x : Int64) : Int64 := (x + zsr x 4) &&& 1085102592571150095
def jl4 (x : Int64) : Int64 := x + zsr x 8
def jl5 (x : Int64) : Int64 := x + zsr x 16
def jl6 (x : Int64) : Int64 := x + zsr x 32
def jpl (x : Int64) : Int32 := (jl6 (jl5 (jl4 (jl3 (jl2 (jl1 x)))))).toInt32 &&& iI 127
theorem jpl_pow : ∀ i, i < 64 → jpl (zsl 1 i - 1) = iI ((i : Nat) : Int) := by decide +kernel
theorem ib_neg (x : Int64) {i : Nat} (hi : i < 64) : ib (-x) i = (ib x i ^^ decide (∃ j, j < i ∧ ib x j = true)) := by
  unfold ib
  rw [Int64.toBitVec_neg, BitVec.getLsbD_neg]
  simp [hi]
theorem zlow1 {x : Int64} (h : ¬ x = 0) : ∃ i : Nat, i < 64 ∧ ib x i = true ∧ (∀ j, j < i → ib x j = false) ∧ jpl ((x &&& -x) - 1) = iI ((i : Nat) : Int) := by
  have hex : ∃ i, i < 64 ∧ ib x i = true := by
    apply Classical.byContradiction
    intro q
    apply h
    apply ib_ext
    intro i hi
    rw [ib_0]
    cases hc : ib x i with
    | false => rfl
    | true => exact absurd ⟨i, hi, hc⟩ q
  obtain ⟨i, ⟨hi, hx⟩, hmin⟩ := pk_least (fun i => i < 64 ∧ ib x i = true) hex
  have hlow : ∀ j, j < i → ib x j = false := by
    intro j hj
    cases hc : ib x j with
    | false => rfl
    | true => exact absurd ⟨by omega, hc⟩ (hmin j hj)
  refine ⟨i, hi, hx, hlow, ?_⟩
  have e : (x &&& -x) = zsl 1 i := by
    apply ib_ext
    intro j hj
    rw [ib_and, ib_neg x hj, ib_sl _ hj]
    by_cases h1 : j < i
    · rw [hlow j h1]
      simp [h1]
    · rw [ib_1 _ (by omega)]
      by_cases h2 : j = i
      · subst h2
        have : ¬ ∃ k, k < j ∧ ib x k = true := by
          rintro ⟨k, hk, hk2⟩
          rw [hlow k hk] at hk2
          exact absurd hk2 Bool.false_ne_true
        rw [hx, decide_eq_false this]
        simp
      · have : ∃ k, k < j ∧ ib x k = true := ⟨i, by omega, hx⟩
        rw [decide_eq_true this]
        have h3 : ¬ j - i = 0 := by omega
        simp [h3]
  rw [e]
  exact jpl_pow i hi
theorem zrw_true : zrw (fun _ => true) = fun _ => -1 := by
  funext j
  apply ib_ext
  intro i hi
  rw [ib_rw _ _ hi, ib_m1 i hi]
def zlow (b : Nat → Bool) (f t : Nat) : Nat → Bool := fun j => b j && !(decide (f ≤ j) && decide (j < t))
theorem zlow_0 (b : Nat → Bool) {f t : Nat} (h : t ≤ f) : zlow b f t = b := by
  funext j
  unfold zlow
  by_cases h1 : f ≤ j
  · simp [show ¬ j < t by omega]
  · simp [h1]
theorem zlow_s (b : Nat → Bool) {f t : Nat} (h : f ≤ t) : zbU (zlow b f t) t false = zlow b f (t + 1) := by
  funext j
  unfold zbU zlow
  by_cases h1 : j = t
  · subst h1
    simp [h]
  · rw [if_neg h1]
    have : (j < t + 1) ↔ (j < t) := by omega
    simp [this]
def zfl (b : Nat → Bool) (f t : Nat) : Nat → Bool := fun j => if f ≤ j ∧ j < t then !b j else b j
theorem zfl_0 (b : Nat → Bool) (f : Nat) : zfl b f f = b := by
  funext j
  unfold zfl
  rw [if_neg (by omega)]
theorem zfl_s (b : Nat → Bool) {f t : Nat} (h : f ≤ t) : zbU (zfl b f t) t (!(zfl b f t t)) = zfl b f (t + 1) := by
  funext j
  unfold zbU zfl
  by_cases h1 : j = t
  · subst h1
    simp [h]
  · rw [if_neg h1]
    have : (f ≤ j ∧ j < t + 1) ↔ (f ≤ j ∧ j < t) := by omega
    simp only [this]
/-- a sum over n places from f on -/
def zct (g : Nat → Int) (f : Nat) : Nat → Int
  | 0 => 0
  | n + 1 => zct g f n + g (f + n)
theorem zct_b {g : Nat → Int} {f : Nat} (h : ∀ j, 0 ≤ g j ∧ g j ≤ 1) : ∀ n : Nat, 0 ≤ zct g f n ∧ zct g f n ≤ n
  | 0 => ⟨Int.le_refl _, Int.le_refl _⟩
  | n + 1 => by
    have h1 := zct_b (f := f) h n
    have h2 := h (f + n)
    unfold zct
    omega
theorem zct_same {g g' : Nat → Int} {f : Nat} : ∀ {n : Nat}, (∀ j, f ≤ j → j < f + n → g j = g' j) → zct g f n = zct g' f n
  | 0, _ => rfl
  | n + 1, h => by
    unfold zct
    rw [zct_same (fun j h1 h2 => h j h1 (by omega)), h (f + n) (by omega) (by omega)]
/-- the number of a truth value -/
abbrev zB (x : Bool) : Int := ((x.toNat : Nat) : Int)
theorem zB_b (x : Bool) : 0 ≤ zB x ∧ zB x ≤ 1 := by cases x <;> decide
theorem zI_fl {b : Nat → Bool} {W S : Nat → Int} {e k f t : Nat} (h : zI b W S e k) (ht : t ≤ e) : zI (zfl b f t) W S e k := by
  obtain ⟨h1, h2, h3, h4⟩ := h
  refine ⟨h1, h2, fun j hj => ?_, h4⟩
  unfold zfl
  rw [if_neg (by omega)]
  exact h3 j hj
theorem zon_b (w : Nat) : ∀ n, zon w n ≤ n
  | 0 => Nat.le_refl 0
  | n + 1 => by
    have := zon_b w n
    unfold zon
    omega
