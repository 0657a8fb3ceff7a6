/-! INTS: Int32 values named by integers -/
def iI (z : Int) : Int32 := Int32.ofInt z
abbrev iR (z : Int) : Prop := -2147483648 ≤ z ∧ z ≤ 2147483647
theorem iI_toInt {z : Int} (h : iR z) : (iI z).toInt = z := by
  unfold iI
  rw [Int32.toInt_ofInt]
  have hs : (Int32.size : Int) = 4294967296 := rfl
  exact Int.bmod_eq_of_le (by have := h.1; omega) (by have := h.2; omega)
theorem iI_of (x : Int32) : iI x.toInt = x := by
  unfold iI
  exact Int32.ofInt_toInt x
theorem iR_of (x : Int32) : iR x.toInt := ⟨by have := Int32.le_toInt x; omega, by have := Int32.toInt_lt x; omega⟩
theorem iI_ex (x : Int32) : ∃ z : Int, iR z ∧ x = iI z := ⟨x.toInt, iR_of x, (iI_of x).symm⟩
theorem iI_add (a b : Int) : iI a + iI b = iI (a + b) := by
  unfold iI
  exact (Int32.ofInt_add a b).symm
theorem iI_sub (a b : Int) : iI a - iI b = iI (a - b) := by
  unfold iI
  exact (Int32.ofInt_sub a b).symm
theorem iI_mul (a b : Int) : iI a * iI b = iI (a * b) := by
  unfold iI
  exact (Int32.ofInt_mul a b).symm
theorem iI_lt {a b : Int} (ha : iR a) (hb : iR b) : iI a < iI b ↔ a < b := by
  rw [Int32.lt_iff_toInt_lt, iI_toInt ha, iI_toInt hb]
theorem iI_le {a b : Int} (ha : iR a) (hb : iR b) : iI a ≤ iI b ↔ a ≤ b := by
  rw [Int32.le_iff_toInt_le, iI_toInt ha, iI_toInt hb]
theorem iI_eq {a b : Int} (ha : iR a) (hb : iR b) : iI a = iI b ↔ a = b := by
  rw [← Int32.toInt_inj, iI_toInt ha, iI_toInt hb]
theorem iI_nat (n : Nat) : iI (n : Int) = nI n := by
  unfold iI nI
  rw [Int32.ofInt_eq_ofNat]
theorem iI_nat' {z : Int} (h : 0 ≤ z) : iI z = nI z.toNat := by
  rw [← iI_nat, Int.toNat_of_nonneg h]
theorem iI_clamp {z : Int} (h : 0 ≤ z) (h2 : z ≤ 2147483647) : (iI z).toNatClampNeg = z.toNat := by
  rw [iI_nat' h]
  exact nI_clamp (by omega)
theorem iI_in {z : Int} {n : Nat} (h : 0 ≤ z) (h2 : z < n) (h3 : z ≤ 2147483647) : vp_in (iI z) n := by
  rw [vp_in_iff, iI_toInt ⟨by omega, h3⟩]
  exact ⟨h, h2⟩
theorem iI_div {a b : Int} (ha : 0 ≤ a) (ha2 : a ≤ 2147483647) (hb : 0 < b) (hb2 : b ≤ 2147483647) : iI a / iI b = iI (a / b) := by
  obtain ⟨m, rfl⟩ := Int.eq_ofNat_of_zero_le ha
  obtain ⟨n, rfl⟩ := Int.eq_ofNat_of_zero_le (Int.le_of_lt hb)
  rw [iI_nat, iI_nat, pk_div (by omega) (by omega) (by omega), ← iI_nat]
  congr 1
theorem iI_rem {a b : Int} (ha : 0 ≤ a) (ha2 : a ≤ 2147483647) (hb : 0 < b) (hb2 : b ≤ 2147483647) : iI a - iI a / iI b * iI b = iI (a % b) := by
  rw [iI_div ha ha2 hb hb2, iI_mul, iI_sub]
  congr 1
  have := Int.emod_add_mul_ediv a b
  rw [Int.mul_comm] at this
  omega
theorem iI_ne0 {b : Int} (hb : 0 < b) (hb2 : b ≤ 2147483647) : ¬ iI b = 0 := by
  have h : iI b = iI 0 ↔ b = 0 := iI_eq ⟨by omega, hb2⟩ ⟨by omega, by omega⟩
  intro q
  have := h.mp q
  omega
def zand (a b : Int) : Int := ((a.toNat &&& b.toNat : Nat) : Int)
def zor (a b : Int) : Int := ((a.toNat ||| b.toNat : Nat) : Int)
theorem nI_bv (n : Nat) : (nI n).toBitVec = BitVec.ofNat 32 n := rfl
theorem iI_and {a b : Int} (ha : 0 ≤ a) (ha2 : a ≤ 2147483647) (hb : 0 ≤ b) (hb2 : b ≤ 2147483647) : iI a &&& iI b = iI (zand a b) := by
  unfold zand
  rw [iI_nat, iI_nat' ha, iI_nat' hb]
  apply Int32.toBitVec_inj.mp
  rw [Int32.toBitVec_and, nI_bv, nI_bv, nI_bv, BitVec.ofNat_and]
theorem iI_or {a b : Int} (ha : 0 ≤ a) (ha2 : a ≤ 2147483647) (hb : 0 ≤ b) (hb2 : b ≤ 2147483647) : iI a ||| iI b = iI (zor a b) := by
  unfold zor
  rw [iI_nat, iI_nat' ha, iI_nat' hb]
  apply Int32.toBitVec_inj.mp
  rw [Int32.toBitVec_or, nI_bv, nI_bv, nI_bv, BitVec.ofNat_or]
theorem sm32 : ∀ n, n < 32 → ((nI n &&& 31).toBitVec.smod 32).toNat = n := by decide +kernel
theorem iI_shl {a k : Int} (ha : 0 ≤ a) (hk : 0 ≤ k) (hk2 : k < 32) (h : a * 2 ^ k.toNat ≤ 2147483647) : iI a <<< (iI k &&& 31) = iI (a * 2 ^ k.toNat) := by
  obtain ⟨m, rfl⟩ := Int.eq_ofNat_of_zero_le ha
  obtain ⟨n, rfl⟩ := Int.eq_ofNat_of_zero_le hk
  have e : (m : Int) * 2 ^ (n : Int).toNat = ((m * 2 ^ n : Nat) : Int) := by
    rw [Int.toNat_natCast]
    push_cast
    rfl
  rw [e] at h ⊢
  rw [iI_nat, iI_nat, iI_nat]
  exact pk_shlN _ n (sm32 n (by omega)) (by omega)
theorem iI_shr {a k : Int} (ha : 0 ≤ a) (ha2 : a ≤ 2147483647) (hk : 0 ≤ k) (hk2 : k < 32) : iI a >>> (iI k &&& 31) = iI (a / 2 ^ k.toNat) := by
  obtain ⟨m, rfl⟩ := Int.eq_ofNat_of_zero_le ha
  obtain ⟨n, rfl⟩ := Int.eq_ofNat_of_zero_le hk
  have e : (m : Int) / 2 ^ (n : Int).toNat = ((m / 2 ^ n : Nat) : Int) := by
    rw [Int.toNat_natCast]
    push_cast
    rfl
  rw [e, iI_nat, iI_nat, iI_nat]
  exact pk_shrN (by omega) _ n (sm32 n (by omega))
theorem iI_char {a : Int} (h : iR a) : ((iI a).toUInt32 % 65536).toInt32 = iI (a % 65536) := by
  rw [pk_char]
  have e : ((iI a).toBitVec.toNat : Int) % 65536 = a % 65536 := by
    have h1 : (iI a).toBitVec.toInt = a := iI_toInt h
    have h2 := BitVec.toInt_eq_toNat_cond (iI a).toBitVec
    rw [h1] at h2
    split at h2 <;> omega
  rw [← iI_nat]
  congr 1
def zU (F : Nat → Int) (k : Nat) (v : Int) : Nat → Int := fun j => if j = k then v else F j
theorem zU_s {F : Nat → Int} {k : Nat} {v : Int} : zU F k v k = v := if_pos rfl
theorem zU_n {F : Nat → Int} {k j : Nat} {v : Int} (h : j ≠ k) : zU F k v j = F j := if_neg h
theorem zU_upd (F : Nat → Int) (k : Nat) (v : Int) : upd (fun j => iI (F j)) k (iI v) = fun j => iI (zU F k v j) := by
  funext j
  unfold upd zU
  by_cases h : j = k <;> simp [h]
theorem iR_0 : iR 0 := ⟨by omega, by omega⟩
theorem iI_0 : iI 0 = 0 := by decide +kernel
theorem iI_eq0 {a : Int} (ra : iR a) : iI a = 0 ↔ a = 0 := by rw [← iI_0]; exact iI_eq ra iR_0
theorem iI_lt0 {a : Int} (ra : iR a) : iI a < 0 ↔ a < 0 := by rw [← iI_0]; exact iI_lt ra iR_0
theorem iI_0lt {a : Int} (ra : iR a) : 0 < iI a ↔ 0 < a := by rw [← iI_0]; exact iI_lt iR_0 ra
theorem iI_le0 {a : Int} (ra : iR a) : iI a ≤ 0 ↔ a ≤ 0 := by rw [← iI_0]; exact iI_le ra iR_0
theorem iI_0le {a : Int} (ra : iR a) : 0 ≤ iI a ↔ 0 ≤ a := by rw [← iI_0]; exact iI_le iR_0 ra
