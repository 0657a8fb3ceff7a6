/-! THE COUNT OF BITS, as the JDK counts them in a long -/
def pm (c : Nat) : Nat → Nat
  | 0 => 0
  | k + 1 => c + 256 * pm c k
theorem pp_and {a b c d : Nat} (ha : a < 256) (hc : c < 256) : (a + 256 * b) &&& (c + 256 * d) = (a &&& c) + 256 * (b &&& d) := by
  have hac : a &&& c < 2 ^ 8 := Nat.and_lt_two_pow a (by omega)
  apply Nat.eq_of_testBit_eq
  intro i
  rw [Nat.testBit_and, Nat.add_comm a, Nat.add_comm c, Nat.add_comm (a &&& c), show (256 : Nat) = 2 ^ 8 from rfl, Nat.testBit_two_pow_mul_add _ (by omega), Nat.testBit_two_pow_mul_add _ (by omega), Nat.testBit_two_pow_mul_add _ hac]
  split
  · rw [Nat.testBit_and]
  · rw [Nat.testBit_and]
def pg1 (k n : Nat) : Nat := n - ((n / 2) &&& pm 85 k)
def pg2 (k n : Nat) : Nat := (n &&& pm 51 k) + ((n / 4) &&& pm 51 k)
def pg3 (k n : Nat) : Nat := (n + n / 16) &&& pm 15 k
theorem pd1 : ∀ lo, lo < 256 → ∀ q, q < 2 → (lo / 2 + 128 * q) &&& 85 = (lo / 2) &&& 85 := by decide +kernel
theorem pd2 : ∀ lo, lo < 256 → ∀ q, q < 4 → (lo / 4 + 64 * q) &&& 51 = (lo / 4) &&& 51 := by decide +kernel
theorem pd1b : ∀ lo, lo < 256 → (lo / 2) &&& 85 ≤ lo := by decide +kernel
def pb1 (lo : Nat) : Nat := lo - ((lo / 2) &&& 85)
def pb2 (lo : Nat) : Nat := (lo &&& 51) + ((lo / 4) &&& 51)
def pb3 (lo : Nat) : Nat := (lo + lo / 16) &&& 15
theorem pb_all : ∀ lo, lo < 256 → pb1 lo < 256 ∧ pb2 (pb1 lo) < 256 ∧ pb2 (pb1 lo) % 16 ≤ 4 ∧ pb2 (pb1 lo) / 16 ≤ 4 ∧ pb3 (pb2 (pb1 lo)) = zon lo 8 := by decide +kernel
theorem pt1 {k lo hi : Nat} (h : lo < 256) : pg1 (k + 1) (lo + 256 * hi) = pb1 lo + 256 * pg1 k hi := by
  unfold pg1 pb1
  rw [show (lo + 256 * hi) / 2 = (lo / 2 + 128 * (hi % 2)) + 256 * (hi / 2) by omega]
  show lo + 256 * hi - ((lo / 2 + 128 * (hi % 2) + 256 * (hi / 2)) &&& (85 + 256 * pm 85 k)) = _
  rw [pp_and (by omega) (by omega), pd1 lo h _ (by omega)]
  have h1 := pd1b lo h
  have h2 : (hi / 2 &&& pm 85 k) ≤ hi := Nat.le_trans Nat.and_le_left (by omega)
  omega
theorem pt2 {k lo hi : Nat} (h : lo < 256) : pg2 (k + 1) (lo + 256 * hi) = pb2 lo + 256 * pg2 k hi := by
  unfold pg2 pb2
  rw [show (lo + 256 * hi) / 4 = (lo / 4 + 64 * (hi % 4)) + 256 * (hi / 4) by omega]
  show ((lo + 256 * hi) &&& (51 + 256 * pm 51 k)) + ((lo / 4 + 64 * (hi % 4) + 256 * (hi / 4)) &&& (51 + 256 * pm 51 k)) = _
  rw [pp_and h (by omega), pp_and (by omega) (by omega), pd2 lo h _ (by omega)]
  omega
theorem pt3 {k lo hi : Nat} (h : lo % 16 ≤ 4) (h2 : lo / 16 ≤ 4) (h3 : hi % 16 ≤ 4) : pg3 (k + 1) (lo + 256 * hi) = pb3 lo + 256 * pg3 k hi := by
  unfold pg3 pb3
  rw [show (lo + 256 * hi) + (lo + 256 * hi) / 16 = (lo + lo / 16 + 16 * (hi % 16)) + 256 * (hi + hi / 16) by omega]
  show ((lo + lo / 16 + 16 * (hi % 16)) + 256 * (hi + hi / 16)) &&& (15 + 256 * pm 15 k) = _
  rw [pp_and (by omega) (by omega)]
  have e : ∀ z : Nat, z &&& 15 = z % 16 := fun z => Nat.and_two_pow_sub_one_eq_mod z 4
  rw [e, e, show (lo + lo / 16 + 16 * (hi % 16)) % 16 = (lo + lo / 16) % 16 by omega]
/-- the bits of the bytes, a byte each -/
def psp : Nat → Nat → Nat
  | 0, _ => 0
  | k + 1, n => zon (n % 256) 8 + 256 * psp k (n / 256)
theorem p_all : ∀ (k n : Nat), n < 256 ^ k → pg3 k (pg2 k (pg1 k n)) = psp k n ∧ pg2 k (pg1 k n) % 16 ≤ 4
  | 0, n, h => by
    obtain rfl : n = 0 := by omega
    decide
  | k + 1, n, h => by
    have hlo : n % 256 < 256 := Nat.mod_lt _ (by omega)
    have hn : n = n % 256 + 256 * (n / 256) := by omega
    have hhi : n / 256 < 256 ^ k := by
      apply Nat.div_lt_of_lt_mul
      rw [Nat.pow_succ] at h
      omega
    obtain ⟨i1, i2⟩ := p_all k (n / 256) hhi
    obtain ⟨b1, b2, b3, b4, b5⟩ := pb_all (n % 256) hlo
    have e : pg2 (k + 1) (pg1 (k + 1) n) = pb2 (pb1 (n % 256)) + 256 * pg2 k (pg1 k (n / 256)) := by
      conv => lhs; rw [hn]
      rw [pt1 hlo, pt2 b1]
    refine ⟨?_, by rw [e]; omega⟩
    rw [e, pt3 b3 b4 i2, b5, i1]
    rfl
theorem zon_split (lo hi : Nat) (h : lo < 256) : ∀ m, zon (lo + 256 * hi) (8 + m) = zon lo 8 + zon hi m
  | 0 => by
    have : ∀ j, j ≤ 8 → zon (lo + 256 * hi) j = zon lo j := by
      intro j
      induction j with
      | zero => intro _; rfl
      | succ j ih =>
        intro hj
        unfold zon
        rw [ih (by omega)]
        congr 1
        have hp : (256 : Nat) = 2 ^ j * (2 * 2 ^ (7 - j)) := by
          rw [Nat.mul_comm 2, ← Nat.pow_succ, ← Nat.pow_add, show j + (7 - j + 1) = 8 by omega]
        rw [show lo + 256 * hi = lo + 2 ^ j * (2 * 2 ^ (7 - j) * hi) by rw [← Nat.mul_assoc, ← hp], Nat.add_mul_div_left _ _ (Nat.two_pow_pos j)]
        rw [show 2 * 2 ^ (7 - j) * hi = 2 * (2 ^ (7 - j) * hi) by rw [Nat.mul_assoc]]
        omega
    rw [Nat.add_zero, this 8 (Nat.le_refl 8)]
    rfl
  | m + 1 => by
    show zon (lo + 256 * hi) (8 + m) + (lo + 256 * hi) / 2 ^ (8 + m) % 2 = zon lo 8 + (zon hi m + hi / 2 ^ m % 2)
    rw [zon_split lo hi h m, Nat.pow_add, ← Nat.div_div_eq_div_mul, show (lo + 256 * hi) / 2 ^ 8 = hi by omega]
    omega
theorem zon_psp : ∀ (k n : Nat), n < 256 ^ k → ∀ m, 8 * k = m → zon n m = (psp k n) % 256 + zon (n / 256) (m - 8) ∨ k = 0
  | 0, _, _, _, _ => Or.inr rfl
  | k + 1, n, h, m, hm => by
    left
    have hlo : n % 256 < 256 := Nat.mod_lt _ (by omega)
    have hn : n = n % 256 + 256 * (n / 256) := by omega
    have e := zon_split (n % 256) (n / 256) hlo (m - 8)
    rw [← hn, show 8 + (m - 8) = m by omega] at e
    rw [e]
    have := zon_b (n % 256) 8
    unfold psp
    omega
theorem zon_bytes (n : Nat) : zon n 64 = zon (n % 256) 8 + (zon (n / 256 % 256) 8 + (zon (n / 256 / 256 % 256) 8 + (zon (n / 256 / 256 / 256 % 256) 8 + (zon (n / 256 / 256 / 256 / 256 % 256) 8 + (zon (n / 256 / 256 / 256 / 256 / 256 % 256) 8 + (zon (n / 256 / 256 / 256 / 256 / 256 / 256 % 256) 8 + zon (n / 256 / 256 / 256 / 256 / 256 / 256 / 256) 8)))))) := by
  have st : ∀ x m, zon x (8 + m) = zon (x % 256) 8 + zon (x / 256) m := by
    intro x m
    have e := zon_split (x % 256) (x / 256) (Nat.mod_lt _ (by omega)) m
    rw [← e]
    congr 1
    omega
  rw [show 64 = 8 + (8 + (8 + (8 + (8 + (8 + (8 + 8)))))) from rfl, st, st, st, st, st, st, st]
theorem jl_add (x y : Int64) : (x + y).toBitVec.toNat = (x.toBitVec.toNat + y.toBitVec.toNat) % 18446744073709551616 := by
  rw [Int64.toBitVec_add, BitVec.toNat_add]
theorem jl_sr (x : Int64) {k : Nat} (hk : k < 64) : (zsr x k).toBitVec.toNat = x.toBitVec.toNat / 2 ^ k := by
  unfold zsr
  show (x.toBitVec >>> ((UInt64.ofNat k).toBitVec % 64)).toNat = _
  rw [BitVec.ushiftRight_eq', BitVec.toNat_ushiftRight, Nat.shiftRight_eq_div_pow]
  congr 2
  show (BitVec.ofNat 64 k % 64).toNat = k
  rw [BitVec.toNat_umod]
  simp
  omega
theorem jl_and (x y : Int64) : (x &&& y).toBitVec.toNat = x.toBitVec.toNat &&& y.toBitVec.toNat := by
  rw [Int64.toBitVec_and, BitVec.toNat_and]
theorem jl_sub {x y : Int64} (h : y.toBitVec.toNat ≤ x.toBitVec.toNat) : (x - y).toBitVec.toNat = x.toBitVec.toNat - y.toBitVec.toNat := by
  rw [Int64.toBitVec_sub, BitVec.toNat_sub]
  have h1 := x.toBitVec.isLt
  have h2 := y.toBitVec.isLt
  omega
theorem jl3_nat (x : Int64) : (jl3 (jl2 (jl1 x))).toBitVec.toNat = psp 8 x.toBitVec.toNat := by
  have hx := x.toBitVec.isLt
  have m1 : (6148914691236517205 : Int64).toBitVec.toNat = pm 85 8 := by decide +kernel
  have m2 : (3689348814741910323 : Int64).toBitVec.toNat = pm 51 8 := by decide +kernel
  have m3 : (1085102592571150095 : Int64).toBitVec.toNat = pm 15 8 := by decide +kernel
  have e1 : (jl1 x).toBitVec.toNat = pg1 8 x.toBitVec.toNat := by
    unfold jl1 pg1
    have hs : (zsr x 1 &&& 6148914691236517205).toBitVec.toNat = (x.toBitVec.toNat / 2) &&& pm 85 8 := by rw [jl_and, jl_sr x (by omega), m1]
    rw [jl_sub (by rw [hs]; exact Nat.le_trans Nat.and_le_left (by omega)), hs]
  have hb : pm 51 8 = 3689348814741910323 := by decide +kernel
  have e2 : (jl2 (jl1 x)).toBitVec.toNat = pg2 8 (pg1 8 x.toBitVec.toNat) := by
    unfold jl2 pg2
    rw [jl_add, jl_and, jl_and, jl_sr _ (by omega), m2, e1]
    apply Nat.mod_eq_of_lt
    have h1 : (pg1 8 x.toBitVec.toNat &&& pm 51 8) ≤ pm 51 8 := Nat.and_le_right
    have h2 : (pg1 8 x.toBitVec.toNat / 2 ^ 2 &&& pm 51 8) ≤ pm 51 8 := Nat.and_le_right
    rw [hb] at h1 h2 ⊢
    omega
  have e2b : pg2 8 (pg1 8 x.toBitVec.toNat) ≤ 7378697629483820646 := by
    unfold pg2
    have h1 : (pg1 8 x.toBitVec.toNat &&& pm 51 8) ≤ pm 51 8 := Nat.and_le_right
    have h2 : (pg1 8 x.toBitVec.toNat / 4 &&& pm 51 8) ≤ pm 51 8 := Nat.and_le_right
    rw [hb] at h1 h2 ⊢
    omega
  have e3 : (jl3 (jl2 (jl1 x))).toBitVec.toNat = pg3 8 (pg2 8 (pg1 8 x.toBitVec.toNat)) := by
    unfold jl3
    rw [jl_and, jl_add, jl_sr _ (by omega), m3, e2]
    unfold pg3
    rw [Nat.mod_eq_of_lt (by omega)]
  rw [e3]
  exact (p_all 8 _ (by omega)).1
theorem jl_low (x : Int64) : x.toInt32 &&& iI 127 = iI ((x.toBitVec.toNat % 128 : Nat) : Int) := by
  have e : x.toInt32.toBitVec.toNat = x.toBitVec.toNat % 2 ^ 32 := by
    rw [Int64.toBitVec_toInt32, BitVec.signExtend_eq_setWidth_of_le _ (by omega), BitVec.toNat_setWidth]
  rw [pk_and x.toInt32 (m := iI 127) 7 (by decide +kernel), e, ← iI_nat]
  congr 2
  omega
theorem jdm (a r : Nat) (h : a < 256) : (a + 256 * r) / 256 = r := by omega
theorem jmm (a r : Nat) (h : a ≤ 64) : (a + 256 * r) % 128 = a := by omega
theorem jf0 (a0 a1 a2 a3 a4 a5 a6 a7 : Nat) : a0 + 256 * (a1 + 256 * (a2 + 256 * (a3 + 256 * (a4 + 256 * (a5 + 256 * (a6 + 256 * (a7 + 256 * 0))))))) = a0 + 256 * (a1 + 256 * (a2 + 256 * (a3 + 256 * (a4 + 256 * (a5 + 256 * (a6 + 256 * a7)))))) := rfl
theorem jf1 (a0 a1 a2 a3 a4 a5 a6 a7 : Nat) : (a0 + 256 * (a1 + 256 * (a2 + 256 * (a3 + 256 * (a4 + 256 * (a5 + 256 * (a6 + 256 * a7))))))) + (a1 + 256 * (a2 + 256 * (a3 + 256 * (a4 + 256 * (a5 + 256 * (a6 + 256 * a7)))))) = (a0 + a1) + 256 * ((a1 + a2) + 256 * ((a2 + a3) + 256 * ((a3 + a4) + 256 * ((a4 + a5) + 256 * ((a5 + a6) + 256 * ((a6 + a7) + 256 * a7)))))) := by
  simp only [Nat.mul_add]
  omega
theorem jf2 (a0 a1 a2 a3 a4 a5 a6 a7 : Nat) : ((a0 + a1) + 256 * ((a1 + a2) + 256 * ((a2 + a3) + 256 * ((a3 + a4) + 256 * ((a4 + a5) + 256 * ((a5 + a6) + 256 * ((a6 + a7) + 256 * a7))))))) + ((a2 + a3) + 256 * ((a3 + a4) + 256 * ((a4 + a5) + 256 * ((a5 + a6) + 256 * ((a6 + a7) + 256 * a7))))) = (a0 + a1 + a2 + a3) + 256 * ((a1 + a2 + a3 + a4) + 256 * ((a2 + a3 + a4 + a5) + 256 * ((a3 + a4 + a5 + a6) + 256 * ((a4 + a5 + a6 + a7) + 256 * ((a5 + a6 + a7) + 256 * ((a6 + a7) + 256 * a7)))))) := by
  simp only [Nat.mul_add]
  omega
theorem jf3 (a0 a1 a2 a3 a4 a5 a6 a7 : Nat) : ((a0 + a1 + a2 + a3) + 256 * ((a1 + a2 + a3 + a4) + 256 * ((a2 + a3 + a4 + a5) + 256 * ((a3 + a4 + a5 + a6) + 256 * ((a4 + a5 + a6 + a7) + 256 * ((a5 + a6 + a7) + 256 * ((a6 + a7) + 256 * a7))))))) + ((a4 + a5 + a6 + a7) + 256 * ((a5 + a6 + a7) + 256 * ((a6 + a7) + 256 * a7))) = (a0 + a1 + a2 + a3 + a4 + a5 + a6 + a7) + 256 * ((a1 + a2 + a3 + a4 + a5 + a6 + a7) + 256 * ((a2 + a3 + a4 + a5 + a6 + a7) + 256 * ((a3 + a4 + a5 + a6 + a7) + 256 * ((a4 + a5 + a6 + a7) + 256 * ((a5 + a6 + a7) + 256 * ((a6 + a7) + 256 * a7)))))) := by
  simp only [Nat.mul_add]
  omega
theorem jf4 (a0 a1 a2 a3 a4 a5 a6 a7 : Nat) : (a0 + a1 + a2 + a3 + a4 + a5 + a6 + a7) = a0 + (a1 + (a2 + (a3 + (a4 + (a5 + (a6 + a7)))))) := by omega
theorem jl_sum {v a0 a1 a2 a3 a4 a5 a6 a7 : Nat} (h : v = a0 + 256 * (a1 + 256 * (a2 + 256 * (a3 + 256 * (a4 + 256 * (a5 + 256 * (a6 + 256 * (a7 + 256 * 0)))))))) (h0 : a0 ≤ 8) (h1 : a1 ≤ 8) (h2 : a2 ≤ 8) (h3 : a3 ≤ 8) (h4 : a4 ≤ 8) (h5 : a5 ≤ 8) (h6 : a6 ≤ 8) (h7 : a7 ≤ 8) {v1 v2 v3 : Nat} (e1 : v1 = v + v / 256) (e2 : v2 = v1 + v1 / 65536) (e3 : v3 = v2 + v2 / 4294967296) : v3 % 128 = a0 + (a1 + (a2 + (a3 + (a4 + (a5 + (a6 + a7)))))) := by
  rw [jf0] at h
  have q1 : v / 256 = a1 + 256 * (a2 + 256 * (a3 + 256 * (a4 + 256 * (a5 + 256 * (a6 + 256 * a7))))) := by
    rw [h, jdm _ _ (Nat.lt_of_le_of_lt (h0) (by decide))]
  have f1 : v1 = (a0 + a1) + 256 * ((a1 + a2) + 256 * ((a2 + a3) + 256 * ((a3 + a4) + 256 * ((a4 + a5) + 256 * ((a5 + a6) + 256 * ((a6 + a7) + 256 * a7)))))) := by
    rw [e1, q1, h, jf1]
  have q2 : v1 / 65536 = (a2 + a3) + 256 * ((a3 + a4) + 256 * ((a4 + a5) + 256 * ((a5 + a6) + 256 * ((a6 + a7) + 256 * a7)))) := by
    rw [show (65536 : Nat) = 256 * 256 from rfl, ← Nat.div_div_eq_div_mul, f1, jdm _ _ (Nat.lt_of_le_of_lt (Nat.add_le_add h0 h1) (by decide)), jdm _ _ (Nat.lt_of_le_of_lt (Nat.add_le_add h1 h2) (by decide))]
  have f2 : v2 = (a0 + a1 + a2 + a3) + 256 * ((a1 + a2 + a3 + a4) + 256 * ((a2 + a3 + a4 + a5) + 256 * ((a3 + a4 + a5 + a6) + 256 * ((a4 + a5 + a6 + a7) + 256 * ((a5 + a6 + a7) + 256 * ((a6 + a7) + 256 * a7)))))) := by
    rw [e2, q2, f1, jf2]
  have q3 : v2 / 4294967296 = (a4 + a5 + a6 + a7) + 256 * ((a5 + a6 + a7) + 256 * ((a6 + a7) + 256 * a7)) := by
    rw [show (4294967296 : Nat) = 256 * 256 * 256 * 256 from rfl, ← Nat.div_div_eq_div_mul, ← Nat.div_div_eq_div_mul, ← Nat.div_div_eq_div_mul, f2, jdm _ _ (Nat.lt_of_le_of_lt (Nat.add_le_add (Nat.add_le_add (Nat.add_le_add h0 h1) h2) h3) (by decide)), jdm _ _ (Nat.lt_of_le_of_lt (Nat.add_le_add (Nat.add_le_add (Nat.add_le_add h1 h2) h3) h4) (by decide)), jdm _ _ (Nat.lt_of_le_of_lt (Nat.add_le_add (Nat.add_le_add (Nat.add_le_add h2 h3) h4) h5) (by decide)), jdm _ _ (Nat.lt_of_le_of_lt (Nat.add_le_add (Nat.add_le_add (Nat.add_le_add h3 h4) h5) h6) (by decide))]
  have f3 : v3 = (a0 + a1 + a2 + a3 + a4 + a5 + a6 + a7) + 256 * ((a1 + a2 + a3 + a4 + a5 + a6 + a7) + 256 * ((a2 + a3 + a4 + a5 + a6 + a7) + 256 * ((a3 + a4 + a5 + a6 + a7) + 256 * ((a4 + a5 + a6 + a7) + 256 * ((a5 + a6 + a7) + 256 * ((a6 + a7) + 256 * a7)))))) := by
    rw [e3, q3, f2, jf3]
  rw [f3, jmm _ _ (Nat.le_trans (Nat.add_le_add (Nat.add_le_add (Nat.add_le_add (Nat.add_le_add (Nat.add_le_add (Nat.add_le_add (Nat.add_le_add h0 h1) h2) h3) h4) h5) h6) h7) (by decide)), jf4]
theorem jpl_eq (x : Int64) : jpl x = iI ((zon x.toBitVec.toNat 64 : Nat) : Int) := by
  have h := jl3_nat x
  have hx := x.toBitVec.isLt
  have hb := zon_bytes x.toBitVec.toNat
  unfold jpl
  rw [jl_low]
  congr 2
  generalize jl3 (jl2 (jl1 x)) = y at h ⊢
  generalize x.toBitVec.toNat = n at h hb hx ⊢
  have hl : n / 256 / 256 / 256 / 256 / 256 / 256 / 256 % 256 = n / 256 / 256 / 256 / 256 / 256 / 256 / 256 := by omega
  have u : psp 8 n = zon (n % 256) 8 + 256 * (zon (n / 256 % 256) 8 + 256 * (zon (n / 256 / 256 % 256) 8 + 256 * (zon (n / 256 / 256 / 256 % 256) 8 + 256 * (zon (n / 256 / 256 / 256 / 256 % 256) 8 + 256 * (zon (n / 256 / 256 / 256 / 256 / 256 % 256) 8 + 256 * (zon (n / 256 / 256 / 256 / 256 / 256 / 256 % 256) 8 + 256 * (zon (n / 256 / 256 / 256 / 256 / 256 / 256 / 256 % 256) 8 + 256 * 0))))))) := rfl
  rw [hl] at u
  rw [u] at h
  have z0 := zon_b (n % 256) 8
  have z1 := zon_b (n / 256 % 256) 8
  have z2 := zon_b (n / 256 / 256 % 256) 8
  have z3 := zon_b (n / 256 / 256 / 256 % 256) 8
  have z4 := zon_b (n / 256 / 256 / 256 / 256 % 256) 8
  have z5 := zon_b (n / 256 / 256 / 256 / 256 / 256 % 256) 8
  have z6 := zon_b (n / 256 / 256 / 256 / 256 / 256 / 256 % 256) 8
  have z7 := zon_b (n / 256 / 256 / 256 / 256 / 256 / 256 / 256) 8
  rw [hb]
  generalize zon (n % 256) 8 = a0 at h z0 ⊢
  generalize zon (n / 256 % 256) 8 = a1 at h z1 ⊢
  generalize zon (n / 256 / 256 % 256) 8 = a2 at h z2 ⊢
  generalize zon (n / 256 / 256 / 256 % 256) 8 = a3 at h z3 ⊢
  generalize zon (n / 256 / 256 / 256 / 256 % 256) 8 = a4 at h z4 ⊢
  generalize zon (n / 256 / 256 / 256 / 256 / 256 % 256) 8 = a5 at h z5 ⊢
  generalize zon (n / 256 / 256 / 256 / 256 / 256 / 256 % 256) 8 = a6 at h z6 ⊢
  generalize zon (n / 256 / 256 / 256 / 256 / 256 / 256 / 256) 8 = a7 at h z7 ⊢
  have e1 : (jl4 y).toBitVec.toNat = y.toBitVec.toNat + y.toBitVec.toNat / 256 := by
    unfold jl4
    rw [jl_add, jl_sr _ (by omega)]
    omega
  have e2 : (jl5 (jl4 y)).toBitVec.toNat = (jl4 y).toBitVec.toNat + (jl4 y).toBitVec.toNat / 65536 := by
    unfold jl5
    rw [jl_add, jl_sr _ (by omega)]
    omega
  have e3 : (jl6 (jl5 (jl4 y))).toBitVec.toNat = (jl5 (jl4 y)).toBitVec.toNat + (jl5 (jl4 y)).toBitVec.toNat / 4294967296 := by
    unfold jl6
    rw [jl_add, jl_sr _ (by omega)]
    omega
  exact jl_sum h z0 z1 z2 z3 z4 z5 z6 z7 e1 e2 e3
theorem ib_div (x : Int64) (i : Nat) : zB (ib x i) = ((x.toBitVec.toNat / 2 ^ i % 2 : Nat) : Int) := by
  unfold ib zB
  rw [← BitVec.testBit_toNat, Nat.testBit_eq_decide_div_mod_eq]
  have : x.toBitVec.toNat / 2 ^ i % 2 < 2 := Nat.mod_lt _ (by omega)
  by_cases h : x.toBitVec.toNat / 2 ^ i % 2 = 1
  · rw [decide_eq_true h, h]; rfl
  · rw [decide_eq_false h, show x.toBitVec.toNat / 2 ^ i % 2 = 0 by omega]; rfl
theorem zct_zon (x : Int64) : ∀ n, zct (fun i => zB (ib x i)) 0 n = ((zon x.toBitVec.toNat n : Nat) : Int)
  | 0 => rfl
  | n + 1 => by
    unfold zct zon
    rw [zct_zon x n, Nat.zero_add, ib_div]
    push_cast
    rfl
theorem zct_add (g : Nat → Int) (f : Nat) (n : Nat) : ∀ m, zct g f (n + m) = zct g f n + zct g (f + n) m
  | 0 => by simp [zct]
  | m + 1 => by
    show zct g f (n + m) + g (f + (n + m)) = zct g f n + (zct g (f + n) m + g (f + n + m))
    rw [zct_add g f n m, Nat.add_assoc f n m]
    omega
theorem zct_shift (g : Nat → Int) (f : Nat) : ∀ n, zct g f n = zct (fun i => g (f + i)) 0 n
  | 0 => rfl
  | n + 1 => by
    unfold zct
    rw [zct_shift g f n, Nat.zero_add]
/-- the bits of a row, counted -/
theorem jpl_row (b : Nat → Bool) (j : Nat) : jpl (zrw b j) = iI (zct (fun t => zB (b t)) (64 * j) 64) := by
  rw [jpl_eq, ← zct_zon, zct_shift _ (64 * j)]
  congr 1
  apply zct_same
  intro i _ hi
  rw [ib_rw _ _ (by omega)]
theorem zct_zero {g : Nat → Int} {f : Nat} : ∀ {n : Nat}, (∀ j, f ≤ j → j < f + n → g j = 0) → zct g f n = 0
  | 0, _ => rfl
  | n + 1, h => by
    unfold zct
    rw [zct_zero (fun j h1 h2 => h j h1 (by omega)), h (f + n) (by omega) (by omega)]
    rfl
