/-! THE STATE: falls by rank, counts, words put on the wire -/
def zfs (b : Nat → Bool) (e : Nat) : Nat → Nat
  | 0 => znf b e 0
  | a + 1 => znf b e (zfs b e a + 1)
def zfr (b : Nat → Bool) (e r : Nat) : Int := if zfs b e r < e then ((zfs b e r : Nat) : Int) else -5
theorem zfs_le (b : Nat → Bool) (e : Nat) : ∀ r, zfs b e r ≤ e
  | 0 => znf_le 0
  | r + 1 => znf_le _
theorem zfs_end {b : Nat → Bool} {e r : Nat} (h : zfs b e r = e) : ∀ m, zfs b e (r + m) = e
  | 0 => h
  | m + 1 => by
    show znf b e (zfs b e (r + m) + 1) = e
    rw [zfs_end h m]
    exact znf_end (by omega)
theorem zfs_mono (b : Nat → Bool) (e r : Nat) : ∀ m, zfs b e r ≤ zfs b e (r + m)
  | 0 => Nat.le_refl _
  | m + 1 => by
    have h := zfs_mono b e r m
    show _ ≤ znf b e (zfs b e (r + m) + 1)
    by_cases hlt : zfs b e (r + m) < e
    · exact Nat.le_trans h (Nat.le_trans (Nat.le_succ _) (znf_ge _ hlt))
    · have := zfs_le b e (r + m)
      rw [znf_end (by omega)]
      exact zfs_le b e r
theorem zfr_b {b : Nat → Bool} {e r : Nat} (he : e ≤ 1500) : -5 ≤ zfr b e r ∧ zfr b e r < 1500 := by
  unfold zfr
  split <;> omega
theorem zfr_none {b : Nat → Bool} {e r : Nat} : zfr b e r = -5 ↔ ¬ zfs b e r < e := by
  unfold zfr
  split <;> omega
def zlearn (b : Nat → Bool) (e : Nat) : Int := if zfr b e 4 = -5 then -5 else if 4 ≤ (zfr b e 4 - zfr b e 0 + 4) / 8 ∧ (zfr b e 4 - zfr b e 0 + 4) / 8 ≤ 40 then (zfr b e 4 - zfr b e 0 + 4) / 8 else -5
theorem zlearn_b {b : Nat → Bool} {e : Nat} : zlearn b e = -5 ∨ (4 ≤ zlearn b e ∧ zlearn b e ≤ 40) := by
  unfold zlearn
  split
  · exact Or.inl rfl
  · split
    · right; assumption
    · exact Or.inl rfl
theorem zfr_04 {b : Nat → Bool} {e : Nat} (h : ¬ zfr b e 4 = -5) : 0 ≤ zfr b e 0 ∧ zfr b e 0 ≤ zfr b e 4 := by
  have h4 : zfs b e 4 < e := Classical.byContradiction fun q => h (zfr_none.mpr q)
  have hm : zfs b e 0 ≤ zfs b e 4 := zfs_mono b e 0 4
  unfold zfr
  rw [if_pos h4, if_pos (by omega)]
  omega
/-- falls, and low ticks -/
def zcf (b : Nat → Bool) (e : Nat) : Int := zct (fun t => zB (zfall b t)) 0 e
def zcl (b : Nat → Bool) (e : Nat) : Int := zct (fun t => zB (!b t)) 0 e
theorem zcf_all {b : Nat → Bool} {e : Nat} (hb : ∀ t, e ≤ t → b t = true) (he : e ≤ 1536) : zct (fun t => zB (zfall b t)) 0 1536 = zcf b e := by
  rw [show 1536 = e + (1536 - e) by omega, zct_add, zct_zero (f := 0 + e)]
  · simp [zcf]
  · intro j h1 _
    unfold zfall
    rw [hb j (by omega)]
    rfl
theorem zcl_all {b : Nat → Bool} {e : Nat} (hb : ∀ t, e ≤ t → b t = true) (he : e ≤ 1536) : zct (fun t => zB (!b t)) 0 1536 = zcl b e := by
  rw [show 1536 = e + (1536 - e) by omega, zct_add, zct_zero (f := 0 + e)]
  · simp [zcl]
  · intro j h1 _
    rw [hb j (by omega)]
    rfl
theorem zrw_not (b : Nat → Bool) (j : Nat) : zrw b j ^^^ (-1) = zrw (fun t => !b t) j := by
  apply ib_ext
  intro i hi
  rw [ib_xor, ib_rw _ _ hi, ib_rw _ _ hi, ib_m1 i hi]
  cases b (64 * j + i) <;> rfl
theorem zct_b64 {g : Nat → Int} {f n : Nat} (h : ∀ j, 0 ≤ g j ∧ g j ≤ 1) : 0 ≤ zct g f n ∧ zct g f n ≤ n := zct_b h n
/-! words on the wire -/
def zps (S : Nat → Int) (e n : Nat) : Nat := e + n * (S 0).toNat / 16
def zbt (S : Nat → Int) (w i : Nat) : Bool := decide (zbits S w / 2 ^ i % 2 = 1)
def zaw (b : Nat → Bool) (S : Nat → Int) (e w : Nat) : Nat → Nat → Bool
  | 0 => b
  | n + 1 => if zbt S w n then zaw b S e w n else zlow (zaw b S e w n) (zps S e n) (zps S e (n + 1))
theorem zps_mono (S : Nat → Int) (e : Nat) {m n : Nat} (h : m ≤ n) : zps S e m ≤ zps S e n := by
  unfold zps
  exact Nat.add_le_add_left (Nat.div_le_div_right (Nat.mul_le_mul_right _ h)) _
theorem zps_int {S : Nat → Int} (e n : Nat) (h : 0 ≤ S 0) : ((zps S e n : Nat) : Int) = (e : Int) + ((n : Nat) : Int) * S 0 / 16 := by
  unfold zps
  obtain ⟨s, hs⟩ := Int.eq_ofNat_of_zero_le h
  rw [hs, Int.toNat_natCast]
  push_cast
  rfl
theorem zaw_out {b : Nat → Bool} {S : Nat → Int} {e w t : Nat} : ∀ n, (t < e ∨ zps S e n ≤ t) → zaw b S e w n t = b t
  | 0, _ => rfl
  | n + 1, h => by
    have hm : zps S e n ≤ zps S e (n + 1) := zps_mono S e (Nat.le_succ n)
    have h0 : e ≤ zps S e n := Nat.le_add_right _ _
    unfold zaw
    split
    · exact zaw_out n (by omega)
    · unfold zlow
      rw [zaw_out n (by omega)]
      by_cases h1 : zps S e n ≤ t
      · rw [decide_eq_true h1, decide_eq_false (show ¬ t < zps S e (n + 1) by omega)]
        simp
      · rw [decide_eq_false h1]
        simp
/-- in the place of the bit i the level is that bit -/
theorem zaw_in {b : Nat → Bool} {S : Nat → Int} {e w i t : Nat} (h1 : zps S e i ≤ t) (h2 : t < zps S e (i + 1)) (hb : b t = true) : ∀ m, zaw b S e w (i + 1 + m) t = zbt S w i
  | 0 => by
    show zaw b S e w (i + 1) t = _
    unfold zaw
    cases hq : zbt S w i with
    | true => rw [if_pos rfl, zaw_out i (Or.inr h1), hb]
    | false =>
      rw [if_neg Bool.false_ne_true]
      unfold zlow
      rw [decide_eq_true h1, decide_eq_true h2]
      simp
  | m + 1 => by
    show zaw b S e w (i + 1 + m + 1) t = _
    have hm : zps S e (i + 1) ≤ zps S e (i + 1 + m) := zps_mono S e (by omega)
    unfold zaw
    split
    · exact zaw_in h1 h2 hb m
    · unfold zlow
      rw [decide_eq_false (show ¬ zps S e (i + 1 + m) ≤ t by omega)]
      simp
      exact zaw_in h1 h2 hb m
theorem zps_tk {S : Nat → Int} (e : Nat) (h3 : 1 ≤ S 3 ∧ S 3 ≤ 2) (h0 : 64 ≤ S 0 ∧ S 0 ≤ 640) : zps S e (zbn S).toNat = e + (ztk S).toNat := by
  have h := zbn_b h3
  unfold zps ztk
  congr 1
  obtain ⟨s, hs⟩ := Int.eq_ofNat_of_zero_le (show 0 ≤ S 0 by omega)
  obtain ⟨n, hn⟩ := Int.eq_ofNat_of_zero_le (show 0 ≤ zbn S by omega)
  rw [hs, hn, Int.toNat_natCast, Int.toNat_natCast]
  have : ((n : Int) * (s : Int)) / 16 = ((n * s / 16 : Nat) : Int) := by push_cast; rfl
  rw [this, Int.toNat_natCast]
/-- the state behind a word -/
theorem zI_word {b : Nat → Bool} {W S : Nat → Int} {e k w : Nat} (h : zI b W S e k) (hw : w ≤ 255) (hr : ztk S ≤ 1500 - (e : Int)) : zI (zaw b S e w (zbn S).toNat) (zU W k (w : Int)) S (e + (ztk S).toNat) (k + 1) := by
  obtain ⟨he, hk, hb, s0, s1, s2, s3, s4, hw2⟩ := h
  have ht := ztk_b s3 s0
  refine ⟨by omega, by omega, fun t q => ?_, s0, s1, s2, s3, s4, fun j hj => ?_⟩
  · rw [zaw_out _ (Or.inr (by rw [zps_tk e s3 s0]; exact q))]
    exact hb t (by omega)
  · unfold zU
    split
    · omega
    · exact hw2 j (by omega)
/-- a stretch of one level -/
def zsb (b : Nat → Bool) (e : Nat) (v : Int) (m : Nat) : Nat → Bool := if v = 0 then zlow b e (e + m) else b
theorem zI_stretch {b : Nat → Bool} {W S : Nat → Int} {e k m : Nat} (v : Int) (h : zI b W S e k) (hr : (m : Int) ≤ 1500 - (e : Int)) : zI (zsb b e v m) W S (e + m) k := by
  obtain ⟨he, hk, hb, h4⟩ := h
  refine ⟨by omega, by omega, fun t q => ?_, h4⟩
  unfold zsb
  split
  · unfold zlow
    rw [hb t (by omega), decide_eq_false (show ¬ t < e + m by omega)]
    simp
  · exact hb t (by omega)
