/-! THE LEVELS AS BITS IN ROWS OF LONGS -/
def ib (x : Int64) (i : Nat) : Bool := x.toBitVec.getLsbD i
theorem ib_ext {x y : Int64} (h : ∀ i, i < 64 → ib x i = ib y i) : x = y := by
  apply Int64.toBitVec_inj.mp
  apply BitVec.eq_of_getLsbD_eq
  intro i hi
  exact h i hi
theorem ib_and (x y : Int64) (i : Nat) : ib (x &&& y) i = (ib x i && ib y i) := by
  unfold ib
  rw [Int64.toBitVec_and, BitVec.getLsbD_and]
theorem ib_or (x y : Int64) (i : Nat) : ib (x ||| y) i = (ib x i || ib y i) := by
  unfold ib
  rw [Int64.toBitVec_or, BitVec.getLsbD_or]
theorem ib_xor (x y : Int64) (i : Nat) : ib (x ^^^ y) i = (ib x i ^^ ib y i) := by
  unfold ib
  rw [Int64.toBitVec_xor, BitVec.getLsbD_xor]
theorem ib_big {x : Int64} {i : Nat} (h : 64 ≤ i) : ib x i = false := by
  unfold ib
  exact BitVec.getLsbD_of_ge _ _ h
theorem ib_m1 : ∀ i, i < 64 → ib (-1) i = true := by decide +kernel
theorem ib_1 : ∀ i, i < 64 → ib 1 i = decide (i = 0) := by decide +kernel
theorem ib_0 (i : Nat) : ib 0 i = false := by
  unfold ib
  simp
theorem ib_sr (x : Int64) {k i : Nat} (hk : k < 64) : ib (zsr x k) i = ib x (k + i) := by
  unfold ib zsr
  show (x.toBitVec >>> ((UInt64.ofNat k).toBitVec % 64)).getLsbD i = _
  rw [BitVec.ushiftRight_eq', BitVec.getLsbD_ushiftRight]
  congr 2
  show (BitVec.ofNat 64 k % 64).toNat = k
  rw [BitVec.toNat_umod]
  simp
  omega
theorem ib_sl (x : Int64) {k i : Nat} (hi : i < 64) : ib (zsl x k) i = (!decide (i < k) && ib x (i - k)) := by
  unfold ib zsl
  show (x.toBitVec <<< k).getLsbD i = _
  rw [BitVec.getLsbD_shiftLeft]
  simp [hi]
def zbv (f : Nat → Bool) : BitVec 64 := (BitVec.iunfoldr (fun (i : Fin 64) (_ : Unit) => ((), f i.val)) ()).2
theorem zbv_bit (f : Nat → Bool) {i : Nat} (h : i < 64) : (zbv f).getLsbD i = f i := BitVec.iunfoldr_getLsbD (fun _ => ()) ⟨i, h⟩ (fun _ => rfl)
/-- the rows of a function of ticks -/
def zrw (b : Nat → Bool) : Nat → Int64 := fun j => ⟨⟨zbv (fun i => b (64 * j + i))⟩⟩
theorem ib_rw (b : Nat → Bool) (j : Nat) {i : Nat} (h : i < 64) : ib (zrw b j) i = b (64 * j + i) := by
  have q := zbv_bit (fun i => b (64 * j + i)) h
  exact q
def zbU (b : Nat → Bool) (t : Nat) (v : Bool) : Nat → Bool := fun j => if j = t then v else b j
theorem zbU_s {b : Nat → Bool} {t : Nat} {v : Bool} : zbU b t v t = v := if_pos rfl
theorem zbU_n {b : Nat → Bool} {t j : Nat} {v : Bool} (h : j ≠ t) : zbU b t v j = b j := if_neg h
theorem zrw_same {b b' : Nat → Bool} {j : Nat} (h : ∀ i, i < 64 → b (64 * j + i) = b' (64 * j + i)) : zrw b j = zrw b' j := ib_ext fun i hi => by rw [ib_rw _ _ hi, ib_rw _ _ hi, h i hi]
theorem zrw_lev (b : Nat → Bool) (t : Nat) : (zsr (zrw b (t / 64)) (t % 64) &&& 1).toInt32 = iI (((b t).toNat : Nat) : Int) := by
  have h : ∀ i, i < 64 → ib (zsr (zrw b (t / 64)) (t % 64) &&& 1) i = (decide (i = 0) && b t) := by
    intro i hi
    rw [ib_and, ib_1 i hi, ib_sr _ (by omega)]
    by_cases h0 : i = 0
    · subst h0
      rw [ib_rw _ _ (by omega), show 64 * (t / 64) + (t % 64 + 0) = t by omega]
      simp
    · simp [h0]
  cases hb : b t with
  | true =>
    have e : (zsr (zrw b (t / 64)) (t % 64) &&& 1) = 1 := ib_ext fun i hi => by rw [h i hi, hb, ib_1 i hi]; simp
    rw [e]
    decide +kernel
  | false =>
    have e : (zsr (zrw b (t / 64)) (t % 64) &&& 1) = 0 := ib_ext fun i hi => by rw [h i hi, hb, ib_0]; simp
    rw [e]
    decide +kernel
theorem zrw_upd (b : Nat → Bool) (t : Nat) (v : Bool) (x : Int64) (h : ∀ i, i < 64 → ib x i = if i = t % 64 then v else b (64 * (t / 64) + i)) : vp_updL (zrw b) (t / 64) x = zrw (zbU b t v) := by
  funext j
  unfold vp_updL
  by_cases hj : j = t / 64
  · subst hj
    rw [if_pos rfl]
    apply ib_ext
    intro i hi
    rw [h i hi, ib_rw _ _ hi]
    unfold zbU
    by_cases hi2 : i = t % 64
    · rw [if_pos hi2, if_pos (by omega)]
    · rw [if_neg hi2, if_neg (by omega)]
  · rw [if_neg hj]
    apply zrw_same
    intro i hi
    rw [zbU_n (by omega)]
theorem zrw_flip (b : Nat → Bool) (t : Nat) : vp_updL (zrw b) (t / 64) (zrw b (t / 64) ^^^ zsl 1 (t % 64)) = zrw (zbU b t (!b t)) := by
  apply zrw_upd
  intro i hi
  rw [ib_xor, ib_rw _ _ hi, ib_sl _ hi]
  by_cases h1 : i < t % 64
  · rw [if_neg (by omega)]
    simp [h1]
  · rw [ib_1 _ (by omega)]
    by_cases h2 : i = t % 64
    · rw [if_pos h2, show 64 * (t / 64) + i = t by omega]
      simp [h2]
    · rw [if_neg h2]
      have : ¬ i - t % 64 = 0 := by omega
      simp [this]
theorem zrw_low (b : Nat → Bool) (t : Nat) : vp_updL (zrw b) (t / 64) (zrw b (t / 64) &&& (zsl 1 (t % 64) ^^^ (-1))) = zrw (zbU b t false) := by
  apply zrw_upd
  intro i hi
  rw [ib_and, ib_xor, ib_rw _ _ hi, ib_sl _ hi, ib_m1 i hi]
  by_cases h1 : i < t % 64
  · rw [if_neg (by omega)]
    simp [h1]
  · rw [ib_1 _ (by omega)]
    by_cases h2 : i = t % 64
    · rw [if_pos h2]
      simp [h2]
    · rw [if_neg h2]
      have : ¬ i - t % 64 = 0 := by omega
      simp [this]
/-- a fall at a tick -/
def zfall (b : Nat → Bool) (t : Nat) : Bool := !b t && (decide (t = 0) || b (t - 1))
theorem zrw_falls (b : Nat → Bool) (j : Nat) (ahead : Int64) (ha : ahead = if j = 0 then 1 else zsr (zrw b (j - 1)) 63) : ((zsl (zrw b j) 1 ||| ahead) &&& (zrw b j ^^^ (-1))) = zrw (zfall b) j := by
  subst ha
  apply ib_ext
  intro i hi
  rw [ib_and, ib_or, ib_xor, ib_rw _ _ hi, ib_rw _ _ hi, ib_sl _ hi, ib_m1 i hi]
  unfold zfall
  by_cases hj : j = 0
  · subst hj
    rw [if_pos rfl, ib_1 i hi]
    by_cases h0 : i = 0
    · subst h0
      simp
    · rw [ib_rw _ _ (by omega)]
      have : ¬ i < 1 := by omega
      simp only [this, h0, Nat.mul_zero, Nat.zero_add]
      simp
      cases b i <;> simp
  · rw [if_neg hj, ib_sr _ (by omega)]
    by_cases h0 : i = 0
    · subst h0
      rw [ib_rw b (j - 1) (i := 63 + 0) (by omega), show 64 * (j - 1) + (63 + 0) = 64 * j + 0 - 1 by omega]
      have : ¬ 64 * j = 0 := by omega
      simp [this, hj]
      cases b (64 * j) <;> simp
    · rw [ib_rw _ _ (by omega), ib_big (x := zrw b (j - 1)) (i := 63 + i) (by omega)]
      have h1 : ¬ i < 1 := by omega
      have h2 : ¬ 64 * j + i = 0 := by omega
      rw [show 64 * j + (i - 1) = 64 * j + i - 1 by omega]
      rw [decide_eq_false h2, decide_eq_false h1]
      cases b (64 * j + i) <;> cases b (64 * j + i - 1) <;> rfl
/-- the level at any tick -/
def zlv (b : Nat → Bool) (t : Int) : Int := if t < 0 then 1 else (((b t.toNat).toNat : Nat) : Int)
theorem zlv_neg {b : Nat → Bool} {t : Int} (h : t < 0) : zlv b t = 1 := if_pos h
theorem zlv_nat (b : Nat → Bool) (t : Nat) : zlv b (t : Int) = (((b t).toNat : Nat) : Int) := by
  unfold zlv
  rw [if_neg (by omega), Int.toNat_natCast]
theorem zlv_high {b : Nat → Bool} {t : Int} (h : b t.toNat = true) : zlv b t = 1 := by
  unfold zlv
  split
  · rfl
  · rw [h]; rfl
theorem zlv_b (b : Nat → Bool) (t : Int) : 0 ≤ zlv b t ∧ zlv b t ≤ 1 := by
  unfold zlv
  split
  · omega
  · cases b t.toNat <;> simp
/-- the next fall from a tick on, or the end -/
def znx (b : Nat → Bool) (e : Nat) : Nat → Nat → Nat
  | 0, _ => e
  | n + 1, t => if e ≤ t then e else if zfall b t then t else znx b e n (t + 1)
def znf (b : Nat → Bool) (e t : Nat) : Nat := znx b e (e - t) t
theorem znf_end {b : Nat → Bool} {e t : Nat} (h : e ≤ t) : znf b e t = e := by
  unfold znf
  rw [show e - t = 0 by omega]
  rfl
theorem znf_fall {b : Nat → Bool} {e t : Nat} (h : t < e) (hf : zfall b t = true) : znf b e t = t := by
  unfold znf
  obtain ⟨n, hn⟩ : ∃ n, e - t = n + 1 := ⟨e - t - 1, by omega⟩
  rw [hn]
  unfold znx
  rw [if_neg (by omega), if_pos hf]
theorem znf_step {b : Nat → Bool} {e t : Nat} (h : t < e) (hf : zfall b t = false) : znf b e t = znf b e (t + 1) := by
  unfold znf
  obtain ⟨n, hn⟩ : ∃ n, e - t = n + 1 := ⟨e - t - 1, by omega⟩
  rw [hn, show e - (t + 1) = n by omega]
  conv => lhs; unfold znx
  rw [if_neg (by omega), if_neg (by rw [hf]; exact Bool.false_ne_true)]
theorem znf_skip {b : Nat → Bool} {e : Nat} : ∀ (n t : Nat), (∀ j, t ≤ j → j < t + n → j < e → zfall b j = false) → znf b e t = znf b e (t + n)
  | 0, _, _ => rfl
  | n + 1, t, h => by
    by_cases ht : t < e
    · rw [znf_step ht (h t (Nat.le_refl _) (by omega) ht), znf_skip n (t + 1) (fun j h1 h2 h3 => h j (by omega) (by omega) h3), show t + 1 + n = t + (n + 1) by omega]
    · rw [znf_end (by omega), znf_end (by omega)]
theorem znf_le {b : Nat → Bool} {e : Nat} (t : Nat) : znf b e t ≤ e := by
  by_cases ht : e ≤ t
  · rw [znf_end ht]; exact Nat.le_refl _
  · cases hf : zfall b t with
    | true => rw [znf_fall (by omega) hf]; omega
    | false =>
      rw [znf_step (by omega) hf]
      exact znf_le (t + 1)
termination_by e - t
theorem znf_ge {b : Nat → Bool} {e : Nat} (t : Nat) (h : t ≤ e) : t ≤ znf b e t := by
  by_cases ht : e ≤ t
  · rw [znf_end ht]; exact h
  · cases hf : zfall b t with
    | true => rw [znf_fall (by omega) hf]; exact Nat.le_refl _
    | false =>
      rw [znf_step (by omega) hf]
      exact Nat.le_of_succ_le (znf_ge (t + 1) (by omega))
termination_by e - t
theorem znf_is {b : Nat → Bool} {e : Nat} (t : Nat) (h : znf b e t < e) : zfall b (znf b e t) = true := by
  by_cases ht : e ≤ t
  · rw [znf_end ht] at h; omega
  · cases hf : zfall b t with
    | true => rw [znf_fall (by omega) hf]; exact hf
    | false =>
      rw [znf_step (by omega) hf] at h ⊢
      exact znf_is (t + 1) h
termination_by e - t
