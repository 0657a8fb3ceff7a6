/-! THE LAW: rules of its own -/
section ZRulesL
variable {l : Launch} {X : ZX} {G : ZG} {Y : ZY} {nL cells slots pc : Nat} {lv lv' : List (Nat × Value)} {st rest : List Value} {ws ws' : va_W} {cc : ByteArray} {own : String} {Ts : List Cond} {rm : Room} {fl : Prop}
theorem z_astore (C : ZC X G Y nL cc own Ts rm fl) {i x : Nat} (hd : decode cc pc = .ok (.astore i, 2)) (hn : i < nL) (hl : zst lv i (.ref x) = lv') (kk : Z l X G Y nL cells slots (pc + 2) lv' st ws) : Z l X G Y nL cells slots pc lv (.ref x :: st) ws := fun H locs ls hP hD hS h => lv_astore C.1 C.2.1 hd h hn hl (fun ls h => kk H locs ls hP hD hS h)
theorem z_i2l (C : ZC X G Y nL cc own Ts rm fl) {x : Int32} (hd : decode cc pc = .ok (.i2l, 1)) (kk : Z l X G Y nL cells slots (pc + 1) lv (.long x.toInt64 :: st) ws) : Z l X G Y nL cells slots pc lv (.int x :: st) ws := fun H locs ls hP hD hS h => lv_i2l C.1 C.2.1 hd rfl (kk H locs ls hP hD hS h)
theorem z_lmul (C : ZC X G Y nL cc own Ts rm fl) {x y : Int64} (hd : decode cc pc = .ok (.lmul, 1)) (kk : Z l X G Y nL cells slots (pc + 1) lv (.long (x * y) :: st) ws) : Z l X G Y nL cells slots pc lv (.long y :: .long x :: st) ws := fun H locs ls hP hD hS h => lv_lmul C.1 C.2.1 hd (kk H locs ls hP hD hS h)
theorem z_ixor32 (C : ZC X G Y nL cc own Ts rm fl) {x y : Int32} (hd : decode cc pc = .ok (.ixor, 1)) (kk : Z l X G Y nL cells slots (pc + 1) lv (.int (x ^^^ y) :: st) ws) : Z l X G Y nL cells slots pc lv (.int y :: .int x :: st) ws := fun H locs ls hP hD hS h => lv_ixor C.1 C.2.1 hd (kk H locs ls hP hD hS h)
theorem z_ior32 (C : ZC X G Y nL cc own Ts rm fl) {x y : Int32} (hd : decode cc pc = .ok (.ior, 1)) (kk : Z l X G Y nL cells slots (pc + 1) lv (.int (x ||| y) :: st) ws) : Z l X G Y nL cells slots pc lv (.int y :: .int x :: st) ws := fun H locs ls hP hD hS h => lv_ior C.1 C.2.1 hd (kk H locs ls hP hD hS h)
theorem z_ishr32 (C : ZC X G Y nL cc own Ts rm fl) {x y : Int32} (hd : decode cc pc = .ok (.ishr, 1)) (kk : Z l X G Y nL cells slots (pc + 1) lv (.int (x >>> (y &&& 31)) :: st) ws) : Z l X G Y nL cells slots pc lv (.int y :: .int x :: st) ws := fun H locs ls hP hD hS h => lv_ishr C.1 C.2.1 hd (kk H locs ls hP hD hS h)
end ZRulesL
/-- what is left of a number without its sign -/
theorem zmask31 (z : Int) : ∃ w : Int, (0 ≤ w ∧ w ≤ 2147483647) ∧ iI z &&& iI 2147483647 = iI w := by
  have hn : (iI z &&& iI 2147483647).toBitVec.toNat ≤ 2147483647 := by
    rw [Int32.toBitVec_and, BitVec.toNat_and]
    exact Nat.le_trans Nat.and_le_right (by decide)
  refine ⟨((iI z &&& iI 2147483647).toBitVec.toNat : Int), by omega, ?_⟩
  rw [iI_nat]
  apply Int32.toBitVec_inj.mp
  rw [nI_bv, BitVec.ofNat_toNat, BitVec.setWidth_eq]
theorem zixor1 {a b : Int} (ha : a = 0 ∨ a = 1) (hb : b = 0 ∨ b = 1) : iI a ^^^ iI b = iI ((a + b) % 2) := by
  rcases ha with q | q <;> rcases hb with p | p <;> (subst q; subst p; decide +kernel)
/-! THE LAW: a row of 30 bits a number -/
def zlb (c : Nat → Bool) (f : Nat) : Nat → Nat
  | 0 => 0
  | n + 1 => 2 ^ n * (c (f + n)).toNat + zlb c f n
theorem zlb_lt (c : Nat → Bool) (f : Nat) : ∀ n, zlb c f n < 2 ^ n
  | 0 => by show 0 < 1; omega
  | n + 1 => by
    have h := zlb_lt c f n
    have h2 : 2 ^ n * (c (f + n)).toNat ≤ 2 ^ n * 1 := Nat.mul_le_mul_left _ (by cases c (f + n) <;> decide)
    show 2 ^ n * (c (f + n)).toNat + zlb c f n < 2 ^ (n + 1)
    rw [Nat.pow_succ]
    omega
theorem zlb_bit (c : Nat → Bool) (f : Nat) : ∀ n i, (zlb c f n).testBit i = (decide (i < n) && c (f + i))
  | 0, i => by
    show Nat.testBit 0 i = _
    rw [Nat.zero_testBit, decide_eq_false (Nat.not_lt_zero i), Bool.false_and]
  | n + 1, i => by
    show (2 ^ n * (c (f + n)).toNat + zlb c f n).testBit i = _
    rw [Nat.testBit_two_pow_mul_add _ (zlb_lt c f n)]
    by_cases h : i < n
    · rw [if_pos h, zlb_bit c f n i, decide_eq_true h, decide_eq_true (show i < n + 1 by omega)]
    · rw [if_neg h]
      by_cases h2 : i = n
      · subst h2
        rw [Nat.sub_self, decide_eq_true (show i < i + 1 by omega), Bool.true_and]
        cases c (f + i) <;> rfl
      · rw [decide_eq_false (show ¬ i < n + 1 by omega), Bool.false_and]
        obtain ⟨k, hk⟩ : ∃ k, i - n = k + 1 := ⟨i - n - 1, by omega⟩
        rw [hk, Nat.testBit_succ]
        cases c (f + n)
        · exact Nat.zero_testBit k
        · exact Nat.zero_testBit k
theorem zlb_at {c : Nat → Bool} {f n i : Nat} (h : i < n) : zlb c f n / 2 ^ i % 2 = (c (f + i)).toNat := by
  have q := zlb_bit c f n i
  rw [Nat.testBit_eq_decide_div_mod_eq, decide_eq_true h, Bool.true_and] at q
  have hm := Nat.mod_two_eq_zero_or_one (zlb c f n / 2 ^ i)
  cases hc : c (f + i) with
  | true =>
    rw [hc] at q
    exact of_decide_eq_true q
  | false =>
    rw [hc] at q
    have := of_decide_eq_false q
    show _ = 0
    omega
theorem zlb_same {c c' : Nat → Bool} {f : Nat} : ∀ {n : Nat}, (∀ j, j < n → c (f + j) = c' (f + j)) → zlb c f n = zlb c' f n
  | 0, _ => rfl
  | n + 1, h => by
    show 2 ^ n * (c (f + n)).toNat + zlb c f n = 2 ^ n * (c' (f + n)).toNat + zlb c' f n
    rw [h n (by omega), zlb_same (n := n) (fun j hj => h j (by omega))]
/-- the rows of a function of ticks -/
def zlr (c : Nat → Bool) : Nat → Int := fun j => ((zlb c (30 * j) 30 : Nat) : Int)
theorem zlr_b (c : Nat → Bool) (j : Nat) : 0 ≤ zlr c j ∧ zlr c j ≤ 2147483647 := by
  have h := zlb_lt c (30 * j) 30
  have e : (2 : Nat) ^ 30 = 1073741824 := by decide
  unfold zlr
  omega
theorem zlr_0 : zlr (fun _ => false) = fun _ => 0 := by
  funext j
  show ((zlb (fun _ => false) (30 * j) 30 : Nat) : Int) = 0
  simp [zlb]
theorem zlr_lev (c : Nat → Bool) (t : Nat) : zand (zlr c (t / 30) / 2 ^ ((t % 30 : Nat) : Int).toNat) 1 = zB (c t) := by
  have e : zlr c (t / 30) / 2 ^ ((t % 30 : Nat) : Int).toNat = ((zlb c (30 * (t / 30)) 30 / 2 ^ (t % 30) : Nat) : Int) := by
    unfold zlr
    exact zdiv_pow _ _
  rw [e, zand1 (Int.natCast_nonneg _)]
  have h := zlb_at (c := c) (f := 30 * (t / 30)) (n := 30) (i := t % 30) (Nat.mod_lt t (by decide))
  rw [Nat.div_add_mod t 30] at h
  exact_mod_cast congrArg (fun n : Nat => (n : Int)) h
theorem nI_bit (n i : Nat) : (iI (n : Int)).toBitVec.getLsbD i = (decide (i < 32) && n.testBit i) := by
  rw [iI_nat, nI_bv, BitVec.getLsbD_ofNat]
theorem nI_m1 : ∀ i, i < 32 → (iI (-1)).toBitVec.getLsbD i = true := by decide +kernel
theorem zpow_i (n : Nat) : (1 : Int) * 2 ^ ((n : Nat) : Int).toNat = ((2 ^ n : Nat) : Int) := by
  rw [Int.toNat_natCast, Int.one_mul]
  push_cast
  rfl
theorem zpow_v (v : Bool) (n : Nat) : zB v * 2 ^ ((n : Nat) : Int).toNat = ((v.toNat * 2 ^ n : Nat) : Int) := by
  rw [Int.toNat_natCast]
  push_cast
  rfl
theorem zpow_b (t : Nat) : 2 ^ (t % 30) ≤ 536870912 := Nat.le_trans (Nat.pow_le_pow_right (by decide) (show t % 30 ≤ 29 by omega)) (by decide)
theorem zpow_1 (t : Nat) : (1 : Int) * 2 ^ ((t % 30 : Nat) : Int).toNat ≤ 2147483647 := by
  rw [zpow_i]
  have h := zpow_b t
  omega
theorem zpow_2 (v : Bool) (t : Nat) : zB v * 2 ^ ((t % 30 : Nat) : Int).toNat ≤ 2147483647 := by
  rw [zpow_v]
  have h := zpow_b t
  have h2 : v.toNat * 2 ^ (t % 30) ≤ 1 * 2 ^ (t % 30) := Nat.mul_le_mul_right _ (ztn v)
  omega
theorem zlr_put (c : Nat → Bool) (t : Nat) (v : Bool) : ((iI (zlr c (t / 30)) &&& (iI ((2 ^ (t % 30) : Nat) : Int) ^^^ iI (-1))) ||| iI ((v.toNat * 2 ^ (t % 30) : Nat) : Int)) = iI (zlr (zbU c t v) (t / 30)) := by
  have hj : t % 30 < 30 := Nat.mod_lt t (by decide)
  apply Int32.toBitVec_inj.mp
  apply BitVec.eq_of_getLsbD_eq
  intro i hi
  have hi2 : i < 32 := hi
  unfold zlr
  rw [Int32.toBitVec_or, Int32.toBitVec_and, Int32.toBitVec_xor, BitVec.getLsbD_or, BitVec.getLsbD_and, BitVec.getLsbD_xor, nI_bit, nI_bit, nI_bit, nI_bit, nI_m1 i hi2, decide_eq_true hi2, zlb_bit, zlb_bit, Nat.testBit_two_pow]
  simp only [Bool.true_and]
  have hv : (v.toNat * 2 ^ (t % 30)).testBit i = (v && decide (t % 30 = i)) := by
    cases v
    · rw [Bool.false_and]
      show Nat.testBit (0 * 2 ^ (t % 30)) i = false
      rw [Nat.zero_mul, Nat.zero_testBit]
    · rw [Bool.true_and]
      show Nat.testBit (1 * 2 ^ (t % 30)) i = _
      rw [Nat.one_mul, Nat.testBit_two_pow]
  rw [hv]
  have hdm := Nat.div_add_mod t 30
  by_cases hit : t % 30 = i
  · rw [decide_eq_true hit, decide_eq_true (show i < 30 by omega), show 30 * (t / 30) + i = t by omega, zbU_s]
    simp
  · rw [decide_eq_false hit, zbU_n (show 30 * (t / 30) + i ≠ t by omega)]
    simp
theorem zlr_upd (c : Nat → Bool) (t : Nat) (v : Bool) : zU (zlr c) (t / 30) (zlr (zbU c t v) (t / 30)) = zlr (zbU c t v) := by
  funext j
  unfold zU
  by_cases h : j = t / 30
  · rw [if_pos h, h]
  · rw [if_neg h]
    unfold zlr
    rw [zlb_same (fun i hi => (zbU_n (b := c) (t := t) (v := v) (show 30 * j + i ≠ t by omega)).symm)]
/-- m ticks from e on with one level -/
def zst0 (c : Nat → Bool) (e m : Nat) (v : Bool) : Nat → Bool := fun t => if e ≤ t ∧ t < e + m then v else c t
theorem zst0_0 (c : Nat → Bool) (e : Nat) (v : Bool) : zst0 c e 0 v = c := funext fun t => if_neg (by omega)
theorem zst0_s (c : Nat → Bool) (e m : Nat) (v : Bool) : zbU (zst0 c e m v) (e + m) v = zst0 c e (m + 1) v := by
  funext t
  unfold zbU zst0
  by_cases h : t = e + m
  · rw [if_pos h, if_pos (by omega)]
  · by_cases h2 : e ≤ t ∧ t < e + m
    · rw [if_neg h, if_pos h2, if_pos (by omega)]
    · rw [if_neg h, if_neg h2, if_neg (by omega)]
/-- what the law's rows hold: settings, end, count; levels; words -/
def zLq (q : Nat → Int) (c : Nat → Bool) (s : ZS) : Prop := zIs s ∧ (∀ i, i < 5 → q i = s.2.2.1 i) ∧ q 5 = (s.2.2.2.1 : Int) ∧ q 6 = (s.2.2.2.2 : Int) ∧ ∀ t, t < s.2.2.2.1 → c t = s.1 t
def zLv (w : Nat → Int) (s : ZS) : Prop := ∀ j, j < s.2.2.2.2 → w j = s.2.1 j
theorem zLq_r {q : Nat → Int} {c : Nat → Bool} {s : ZS} (h : zLq q c s) : (64 ≤ q 0 ∧ q 0 ≤ 640 ∧ q 0 = s.2.2.1 0) ∧ (4 ≤ q 1 ∧ q 1 ≤ 40 ∧ q 1 = s.2.2.1 1) ∧ (0 ≤ q 2 ∧ q 2 ≤ 2 ∧ q 2 = s.2.2.1 2) ∧ (1 ≤ q 3 ∧ q 3 ≤ 2 ∧ q 3 = s.2.2.1 3) ∧ (0 ≤ q 4 ∧ q 4 ≤ 1 ∧ q 4 = s.2.2.1 4) ∧ q 5 = (s.2.2.2.1 : Int) ∧ q 6 = (s.2.2.2.2 : Int) ∧ s.2.2.2.1 ≤ 1500 ∧ 40 * s.2.2.2.2 ≤ s.2.2.2.1 := by
  obtain ⟨⟨he, hk, hb, s0, s1, s2, s3, s4, hw⟩, h1, h2, h3, h4⟩ := h
  have a0 := h1 0 (by decide)
  have a1 := h1 1 (by decide)
  have a2 := h1 2 (by decide)
  have a3 := h1 3 (by decide)
  have a4 := h1 4 (by decide)
  exact ⟨⟨by omega, by omega, a0⟩, ⟨by omega, by omega, a1⟩, ⟨by omega, by omega, a2⟩, ⟨by omega, by omega, a3⟩, ⟨by omega, by omega, a4⟩, h2, h3, he, hk⟩
theorem zlv_end {s : ZS} (hs : zIs s) {z : Int} (h : (s.2.2.2.1 : Int) ≤ z) : zlv s.1 z = 1 := zlv_high (hs.2.2.1 _ (by omega))
theorem zLq_lv {q : Nat → Int} {c : Nat → Bool} {s : ZS} (h : zLq q c s) {z : Int} (h0 : 0 ≤ z) (h1 : z < (s.2.2.2.1 : Int)) : zB (c z.toNat) = zlv s.1 z := by
  rw [h.2.2.2.2 z.toNat (by omega)]
  unfold zlv
  rw [if_neg (by omega)]
/-- a fall, from its two levels -/
theorem zfall_y {b : Nat → Bool} {t : Nat} (h1 : zlv b (t : Int) = 0) (h2 : zlv b ((t : Int) - 1) = 1) : zfall b t = true := by
  rw [zlv_nat] at h1
  unfold zfall
  have hb : b t = false := by
    cases hq : b t
    · rfl
    · rw [hq] at h1
      exact absurd h1 (by decide)
  rw [hb]
  by_cases ht : t = 0
  · rw [decide_eq_true ht]
    rfl
  · rw [show (t : Int) - 1 = ((t - 1 : Nat) : Int) by omega, zlv_nat] at h2
    have hb2 : b (t - 1) = true := by
      cases hq : b (t - 1)
      · rw [hq] at h2
        exact absurd h2 (by decide)
      · rfl
    rw [hb2, Bool.or_true]
    rfl
theorem zfall_n {b : Nat → Bool} {t : Nat} (h : ¬ zlv b (t : Int) = 0 ∨ ¬ zlv b ((t : Int) - 1) = 1) : zfall b t = false := by
  unfold zfall
  rcases h with h | h
  · rw [zlv_nat] at h
    cases hq : b t
    · rw [hq] at h
      exact absurd rfl h
    · rfl
  · by_cases ht : t = 0
    · exact absurd (zlv_neg (b := b) (t := (t : Int) - 1) (by omega)) h
    · rw [show (t : Int) - 1 = ((t - 1 : Nat) : Int) by omega, zlv_nat] at h
      cases hq : b (t - 1)
      · rw [decide_eq_false ht]
        cases b t <;> rfl
      · rw [hq] at h
        exact absurd rfl h
theorem zbt_v (S : Nat → Int) (w i : Nat) : zbits S w / 2 ^ i % 2 = zB (zbt S w i) := by
  unfold zbt
  have hm := Int.emod_two_eq (zbits S w / 2 ^ i)
  rcases hm with q | q
  · rw [q]
    rfl
  · rw [q]
    rfl
/-- the parity as it grows, bit by bit -/
def zpx (p : Int) (w i : Nat) : Int := (((zon w i + (if p = 1 then 0 else 1)) % 2 : Nat) : Int)
theorem zpx_b (p : Int) (w i : Nat) : zpx p w i = 0 ∨ zpx p w i = 1 := by
  unfold zpx
  omega
theorem zpx_s (p : Int) (w i : Nat) : (zpx p w i + ((w / 2 ^ i % 2 : Nat) : Int)) % 2 = zpx p w (i + 1) := by
  have e : zon w (i + 1) = zon w i + w / 2 ^ i % 2 := by first | rfl | (unfold zon; omega)
  unfold zpx
  rw [e]
  split <;> omega
theorem zpx_8 (p : Int) (w : Nat) : zpx p w 8 = zpar p w := by
  unfold zpx zpar
  split <;> omega
