/-! WHAT IS RECEIVED -/
/-- the looks of a bit that begins at f, with bits of r ticks -/
def zsm (b : Nat → Bool) (f r : Nat) : Nat := (b (f + r / 3)).toNat + (b (f + r / 2)).toNat + (b (f + 2 * r / 3)).toNat
def zvo (b : Nat → Bool) (v : Int) (f r : Nat) : Nat := if v = 1 then (b (f + r / 2)).toNat else if 2 ≤ zsm b f r then 1 else 0
def zdo (b : Nat → Bool) (f r : Nat) : Nat := if zsm b f r % 3 = 0 then 0 else 1
theorem ztn (x : Bool) : x.toNat ≤ 1 := by cases x <;> decide
theorem zsm_b (b : Nat → Bool) (f r : Nat) : zsm b f r ≤ 3 := by
  have h1 := ztn (b (f + r / 3))
  have h2 := ztn (b (f + r / 2))
  have h3 := ztn (b (f + 2 * r / 3))
  unfold zsm
  omega
theorem zvo_b (b : Nat → Bool) (v : Int) (f r : Nat) : zvo b v f r ≤ 1 := by
  have h2 := ztn (b (f + r / 2))
  unfold zvo
  split
  · exact h2
  · split <;> omega
theorem zdo_b (b : Nat → Bool) (f r : Nat) : zdo b f r ≤ 1 := by
  unfold zdo
  split <;> omega
/-- the bits 1 to n, as a number with the bit i in the place i -/
def zac (b : Nat → Bool) (v : Int) (t r : Nat) : Nat → Nat
  | 0 => 0
  | n + 1 => zac b v t r n + zvo b v (t + (n + 1) * r) r * 2 ^ (n + 1)
def zdc (b : Nat → Bool) (t r : Nat) : Nat → Nat
  | 0 => zdo b t r
  | n + 1 => zdc b t r n + zdo b (t + (n + 1) * r) r
theorem zac_b (b : Nat → Bool) (v : Int) (t r : Nat) : ∀ n, zac b v t r n < 2 ^ (n + 1)
  | 0 => by show 0 < 2; omega
  | n + 1 => by
    have h := zac_b b v t r n
    have h2 := zvo_b b v (t + (n + 1) * r) r
    unfold zac
    have h3 : zvo b v (t + (n + 1) * r) r * 2 ^ (n + 1) ≤ 1 * 2 ^ (n + 1) := Nat.mul_le_mul_right _ h2
    rw [Nat.pow_succ 2 (n + 1)]
    omega
theorem zdc_b (b : Nat → Bool) (t r : Nat) : ∀ n, zdc b t r n ≤ n + 1
  | 0 => zdo_b _ _ _
  | n + 1 => by
    have h := zdc_b b t r n
    have h2 := zdo_b b (t + (n + 1) * r) r
    unfold zdc
    omega
theorem zor_ac (b : Nat → Bool) (v : Int) (t r n : Nat) : zor ((zac b v t r n : Nat) : Int) (((zvo b v (t + (n + 1) * r) r : Nat) : Int) * 2 ^ (n + 1)) = ((zac b v t r (n + 1) : Nat) : Int) := by
  have h := zac_b b v t r n
  rw [zor_add (n + 1) (by omega) (by exact_mod_cast h) (by omega)]
  show _ = ((zac b v t r n + zvo b v (t + (n + 1) * r) r * 2 ^ (n + 1) : Nat) : Int)
  push_cast
  rfl
/-- the place of the stop -/
def zst9 (S : Nat → Int) : Nat := if S 2 = 0 then 9 else 10
theorem zst9_b (S : Nat → Int) : 9 ≤ zst9 S ∧ zst9 S ≤ 10 := by
  unfold zst9
  split <;> omega
/-- the kind, of bits with the stop in the place p -/
def zko (n p : Nat) (q : Int) : Int := if n = 0 then 3 else if n / 2 ^ p % 2 = 0 then 2 else if ¬ q = 0 ∧ ¬ ((n / 2 ^ 9 % 2 : Nat) : Int) = zpar q (n / 2 % 256) then 1 else 0
theorem zko_b (n p : Nat) (q : Int) : 0 ≤ zko n p q ∧ zko n p q ≤ 3 := by
  unfold zko
  split
  · omega
  · split
    · omega
    · split <;> omega
/-- kind, word, begin, doubtful bits, last look -/
abbrev ZIt : Type := Int × Nat × Nat × Nat × Nat
def zlast (S : Nat → Int) (t r : Nat) : Nat := t + zst9 S * r + 2 * r / 3
def zit (b : Nat → Bool) (S : Nat → Int) (t r : Nat) : ZIt := (zko (zac b (S 4) t r (zst9 S)) (zst9 S) (S 2), zac b (S 4) t r (zst9 S) / 2 % 256, t, zdc b t r (zst9 S), zlast S t r)
/-- from where the next one is waited for -/
def zgo (b : Nat → Bool) (S : Nat → Int) (t r : Nat) : Nat := if (zit b S t r).1 = 3 then zlast S t r + 2 else zlast S t r + 1
theorem zlast_b {S : Nat → Int} {t r : Nat} (hr : 4 ≤ r ∧ r ≤ 40) : t + 38 ≤ zlast S t r ∧ zlast S t r ≤ t + 426 := by
  have h := zst9_b S
  have h1 : 9 * 4 ≤ zst9 S * r := Nat.mul_le_mul h.1 hr.1
  have h2 : zst9 S * r ≤ 10 * 40 := Nat.mul_le_mul h.2 hr.2
  unfold zlast
  omega
theorem zgo_b {b : Nat → Bool} {S : Nat → Int} {t r : Nat} (hr : 4 ≤ r ∧ r ≤ 40) : t + 39 ≤ zgo b S t r ∧ zgo b S t r ≤ t + 428 := by
  have h := zlast_b (S := S) (t := t) hr
  unfold zgo
  split <;> omega
/-- all that is received from a tick on, and the false starts -/
def zrc (b : Nat → Bool) (S : Nat → Int) (e r : Nat) : Nat → Nat → List ZIt × Nat
  | 0, _ => ([], 0)
  | n + 1, t => if e ≤ znf b e t then ([], 0) else if zvo b (S 4) (znf b e t) r = 1 then ((zrc b S e r n (znf b e t + 2 * r / 3 + 1)).1, (zrc b S e r n (znf b e t + 2 * r / 3 + 1)).2 + 1) else (zit b S (znf b e t) r :: (zrc b S e r n (zgo b S (znf b e t) r)).1, (zrc b S e r n (zgo b S (znf b e t) r)).2)
theorem zrc_end {b : Nat → Bool} {S : Nat → Int} {e r n t : Nat} (h : e ≤ znf b e t) : zrc b S e r n t = ([], 0) := by
  cases n with
  | zero => rfl
  | succ n => unfold zrc; rw [if_pos h]
theorem zrc_false {b : Nat → Bool} {S : Nat → Int} {e r n t : Nat} (h : znf b e t < e) (h1 : zvo b (S 4) (znf b e t) r = 1) : zrc b S e r (n + 1) t = ((zrc b S e r n (znf b e t + 2 * r / 3 + 1)).1, (zrc b S e r n (znf b e t + 2 * r / 3 + 1)).2 + 1) := by
  conv => lhs; unfold zrc
  rw [if_neg (by omega), if_pos h1]
theorem zrc_item {b : Nat → Bool} {S : Nat → Int} {e r n t : Nat} (h : znf b e t < e) (h1 : ¬ zvo b (S 4) (znf b e t) r = 1) : zrc b S e r (n + 1) t = (zit b S (znf b e t) r :: (zrc b S e r n (zgo b S (znf b e t) r)).1, (zrc b S e r n (zgo b S (znf b e t) r)).2) := by
  conv => lhs; unfold zrc
  rw [if_neg (by omega), if_neg h1]
/-- enough turns are enough -/
theorem zrc_more {b : Nat → Bool} {S : Nat → Int} {e r : Nat} (hr : 4 ≤ r ∧ r ≤ 40) : ∀ (n m t : Nat), e < t + n → e < t + m → zrc b S e r n t = zrc b S e r m t
  | 0, m, t, h, _ => by
    rw [zrc_end (n := m) (by rw [znf_end (by omega)]; exact Nat.le_refl _)]
    rfl
  | n + 1, 0, t, _, h => by
    rw [zrc_end (n := n + 1) (by rw [znf_end (by omega)]; exact Nat.le_refl _)]
    rfl
  | n + 1, m + 1, t, h, h2 => by
    by_cases he : e ≤ znf b e t
    · rw [zrc_end he, zrc_end he]
    · have hge : t ≤ znf b e t := by
        by_cases q : t ≤ e
        · exact znf_ge t q
        · rw [znf_end (by omega)] at he
          omega
      by_cases h1 : zvo b (S 4) (znf b e t) r = 1
      · rw [zrc_false (by omega) h1, zrc_false (by omega) h1, zrc_more hr n m (znf b e t + 2 * r / 3 + 1) (by omega) (by omega)]
      · have hg := zgo_b (b := b) (S := S) (t := znf b e t) hr
        rw [zrc_item (by omega) h1, zrc_item (by omega) h1, zrc_more hr n m (zgo b S (znf b e t) r) (by omega) (by omega)]
theorem zrc_znf {b : Nat → Bool} {S : Nat → Int} {e r : Nat} {n t t' : Nat} (h : znf b e t = znf b e t') : zrc b S e r n t = zrc b S e r n t' := by
  cases n with
  | zero => rfl
  | succ n =>
    unfold zrc
    rw [h]
def zall (b : Nat → Bool) (S : Nat → Int) (e r : Nat) : List ZIt := (zrc b S e r (e + 1) 0).1
def zfls (b : Nat → Bool) (S : Nat → Int) (e r : Nat) : Nat := (zrc b S e r (e + 1) 0).2
def zItB (it : ZIt) : Prop := (0 ≤ it.1 ∧ it.1 ≤ 3) ∧ it.2.1 ≤ 255 ∧ it.2.2.1 ≤ 1500 ∧ it.2.2.2.1 ≤ 11 ∧ it.2.2.2.2 ≤ 2000
theorem zit_b {b : Nat → Bool} {S : Nat → Int} {t r : Nat} (ht : t ≤ 1500) (hr : 4 ≤ r ∧ r ≤ 40) : zItB (zit b S t r) := by
  have h1 := zko_b (zac b (S 4) t r (zst9 S)) (zst9 S) (S 2)
  have h2 := zdc_b b t r (zst9 S)
  have h3 := zst9_b S
  have h4 := zlast_b (S := S) (t := t) hr
  refine ⟨h1, ?_, ht, ?_, ?_⟩
  · show zac b (S 4) t r (zst9 S) / 2 % 256 ≤ 255
    omega
  · show zdc b t r (zst9 S) ≤ 11
    omega
  · show zlast S t r ≤ 2000
    omega
theorem zrc_b {b : Nat → Bool} {S : Nat → Int} {e r : Nat} (he : e ≤ 1500) (hr : 4 ≤ r ∧ r ≤ 40) : ∀ n t, ∀ it ∈ (zrc b S e r n t).1, zItB it
  | 0, t, it, h => by cases h
  | n + 1, t, it, h => by
    unfold zrc at h
    split at h
    · cases h
    · split at h
      · exact zrc_b he hr n _ it h
      · rcases List.mem_cons.mp h with rfl | h
        · exact zit_b (by omega) hr
        · exact zrc_b he hr n _ it h
theorem zrc_len {b : Nat → Bool} {S : Nat → Int} {e r : Nat} (hr : 4 ≤ r ∧ r ≤ 40) : ∀ n t, t ≤ e → t + 39 * (zrc b S e r n t).1.length ≤ e + 38 ∧ t + (zrc b S e r n t).2 ≤ e
  | 0, t, h => ⟨by show t + 39 * 0 ≤ _; omega, by show t + 0 ≤ e; omega⟩
  | n + 1, t, h => by
    have hge := znf_ge (b := b) t h
    by_cases he : e ≤ znf b e t
    · rw [zrc_end he]
      exact ⟨by show t + 39 * 0 ≤ _; omega, by show t + 0 ≤ e; omega⟩
    · by_cases h1 : zvo b (S 4) (znf b e t) r = 1
      · rw [zrc_false (by omega) h1]
        by_cases q : znf b e t + 2 * r / 3 + 1 ≤ e
        · have := zrc_len (b := b) (S := S) hr n (znf b e t + 2 * r / 3 + 1) q
          exact ⟨by show t + 39 * (zrc b S e r n (znf b e t + 2 * r / 3 + 1)).1.length ≤ _; omega, by show t + ((zrc b S e r n (znf b e t + 2 * r / 3 + 1)).2 + 1) ≤ e; omega⟩
        · rw [zrc_end (by rw [znf_end (by omega)]; exact Nat.le_refl _)]
          exact ⟨by show t + 39 * 0 ≤ _; omega, by show t + (0 + 1) ≤ e; omega⟩
      · have hg := zgo_b (b := b) (S := S) (t := znf b e t) hr
        rw [zrc_item (by omega) h1]
        by_cases q : zgo b S (znf b e t) r ≤ e
        · have := zrc_len (b := b) (S := S) hr n (zgo b S (znf b e t) r) q
          exact ⟨by show t + 39 * ((zrc b S e r n (zgo b S (znf b e t) r)).1.length + 1) ≤ _; omega, by show t + (zrc b S e r n (zgo b S (znf b e t) r)).2 ≤ e; omega⟩
        · rw [zrc_end (by rw [znf_end (by omega)]; exact Nat.le_refl _)]
          exact ⟨by show t + 39 * (0 + 1) ≤ _; omega, by show t + 0 ≤ e; omega⟩
theorem zall_len {b : Nat → Bool} {S : Nat → Int} {e r : Nat} (he : e ≤ 1500) (hr : 4 ≤ r ∧ r ≤ 40) : (zall b S e r).length ≤ 39 ∧ zfls b S e r ≤ 1500 := by
  have := zrc_len (b := b) (S := S) hr (e + 1) 0 (Nat.zero_le e)
  unfold zall zfls
  omega
/-- the rows hold what is in the list -/
def zho (N0 N1 N2 N3 N4 : Nat → Int) (l : List ZIt) : Prop := ∀ i it, l[i]? = some it → N0 i = it.1 ∧ N1 i = (it.2.1 : Int) ∧ N2 i = (it.2.2.1 : Int) ∧ N3 i = (it.2.2.2.1 : Int) ∧ N4 i = (it.2.2.2.2 : Int)
theorem zho_0 (N0 N1 N2 N3 N4 : Nat → Int) : zho N0 N1 N2 N3 N4 [] := fun i it h => by simp at h
theorem zho_add {N0 N1 N2 N3 N4 : Nat → Int} {l : List ZIt} {a0 a1 a2 a3 a4 : Int} (h : zho N0 N1 N2 N3 N4 l) (it : ZIt) (h0 : a0 = it.1) (h1 : a1 = (it.2.1 : Int)) (h2 : a2 = (it.2.2.1 : Int)) (h3 : a3 = (it.2.2.2.1 : Int)) (h4 : a4 = (it.2.2.2.2 : Int)) : zho (zU N0 l.length a0) (zU N1 l.length a1) (zU N2 l.length a2) (zU N3 l.length a3) (zU N4 l.length a4) (l ++ [it]) := by
  intro i x hx
  by_cases hi : i < l.length
  · rw [List.getElem?_append_left hi] at hx
    unfold zU
    rw [if_neg (by omega), if_neg (by omega), if_neg (by omega), if_neg (by omega), if_neg (by omega)]
    exact h i x hx
  · rw [List.getElem?_append_right (by omega)] at hx
    have : i - l.length < 1 := (List.getElem?_eq_some_iff.mp hx).1
    have hi2 : i = l.length := by omega
    subst hi2
    rw [Nat.sub_self] at hx
    cases hx
    rw [zU_s, zU_s, zU_s, zU_s, zU_s]
    exact ⟨h0, h1, h2, h3, h4⟩
def zfld (it : ZIt) (w : Nat) : Int := if w = 0 then it.1 else if w = 1 then (it.2.1 : Int) else if w = 2 then (it.2.2.1 : Int) else if w = 3 then (it.2.2.2.1 : Int) else (it.2.2.2.2 : Int)
/-- something of what is received, by its rank -/
def zno (l : List ZIt) (z : Int) (w : Nat) : Int := if 0 ≤ z then (match l[z.toNat]? with | some it => zfld it w | none => -5) else -5
theorem zno_at {l : List ZIt} {i w : Nat} {it : ZIt} (h : l[i]? = some it) : zno l (i : Int) w = zfld it w := by
  unfold zno
  rw [if_pos (by omega), Int.toNat_natCast, h]
theorem zno_none {l : List ZIt} {z : Int} {w : Nat} (h : z < 0 ∨ (l.length : Int) ≤ z) : zno l z w = -5 := by
  unfold zno
  split
  · rw [List.getElem?_eq_none (by omega)]
  · rfl
theorem zfld_b {it : ZIt} (h : zItB it) (w : Nat) : 0 ≤ zfld it w ∧ zfld it w ≤ 2000 := by
  obtain ⟨h0, h1, h2, h3, h4⟩ := h
  unfold zfld
  split
  · omega
  · split
    · omega
    · split
      · omega
      · split <;> omega
/-- how many of the first n have a property -/
def zcn (P : ZIt → Bool) (l : List ZIt) : Nat → Nat
  | 0 => 0
  | n + 1 => zcn P l n + (match l[n]? with | some it => (P it).toNat | none => 0)
theorem zcn_s {P : ZIt → Bool} {l : List ZIt} {n : Nat} {it : ZIt} (h : l[n]? = some it) : zcn P l (n + 1) = zcn P l n + (P it).toNat := by
  show zcn P l n + _ = _
  rw [h]
theorem zcn_b (P : ZIt → Bool) (l : List ZIt) : ∀ n, zcn P l n ≤ n
  | 0 => Nat.le_refl 0
  | n + 1 => by
    have h := zcn_b P l n
    show zcn P l n + _ ≤ n + 1
    cases l[n]? with
    | none => exact Nat.le_succ_of_le h
    | some it =>
      have := ztn (P it)
      show zcn P l n + (P it).toNat ≤ n + 1
      omega
def zds (l : List ZIt) : Nat → Nat
  | 0 => 0
  | n + 1 => zds l n + (match l[n]? with | some it => it.2.2.2.1 | none => 0)
theorem zds_s {l : List ZIt} {n : Nat} {it : ZIt} (h : l[n]? = some it) : zds l (n + 1) = zds l n + it.2.2.2.1 := by
  show zds l n + _ = _
  rw [h]
theorem zds_b {l : List ZIt} (hl : ∀ it ∈ l, zItB it) : ∀ n, zds l n ≤ 11 * n
  | 0 => Nat.le_refl 0
  | n + 1 => by
    have h := zds_b hl n
    show zds l n + _ ≤ _
    cases hq : l[n]? with
    | none => show zds l n + 0 ≤ _; omega
    | some it =>
      have := (hl it (List.mem_of_getElem? hq)).2.2.2.1
      show zds l n + it.2.2.2.1 ≤ _
      omega
def zgood (w : Int) (it : ZIt) : Bool := decide (it.1 = 0 ∧ (it.2.1 : Int) = w)
/-- all is well -/
def zwell (l : List ZIt) (W : Nat → Int) (k : Nat) : Prop := l.length = k ∧ ∀ i it, l[i]? = some it → it.1 = 0 ∧ (it.2.1 : Int) = W i
theorem zit_at {l : List ZIt} {i : Nat} (h : i < l.length) : ∃ it, l[i]? = some it ∧ it ∈ l := ⟨l[i], List.getElem?_eq_getElem h, List.getElem_mem h⟩
/-- the rows of the receiver -/
def zna (n0 n1 n2 n3 n4 : Nat) : Nat → Option Nat := fun i => match i with
  | 0 => some n0
  | 1 => some n1
  | 2 => some n2
  | 3 => some n3
  | 4 => some n4
  | _ => none
theorem zand255 (n : Nat) : zand ((n : Nat) : Int) 255 = ((n % 256 : Nat) : Int) := by
  unfold zand
  rw [Int.toNat_natCast, show (255 : Int).toNat = 2 ^ 8 - 1 from rfl, Nat.and_two_pow_sub_one_eq_mod]
theorem zdiv_pow (n p : Nat) : ((n : Nat) : Int) / 2 ^ ((p : Nat) : Int).toNat = ((n / 2 ^ p : Nat) : Int) := by
  rw [Int.toNat_natCast]
  push_cast
  rfl
theorem zno_r {N0 N1 N2 N3 N4 : Nat → Int} {L : List ZIt} {z : Int} (h : zho N0 N1 N2 N3 N4 L) (hz : 0 ≤ z) (hl : z.toNat < L.length) : N0 z.toNat = zno L z 0 ∧ N1 z.toNat = zno L z 1 ∧ N2 z.toNat = zno L z 2 ∧ N3 z.toNat = zno L z 3 ∧ N4 z.toNat = zno L z 4 := by
  obtain ⟨it, hit, -⟩ := zit_at hl
  have hh := h _ _ hit
  have e : ∀ w, zno L z w = zfld it w := by
    intro w
    unfold zno
    rw [if_pos hz, hit]
  rw [e, e, e, e, e]
  exact hh
theorem zshb {v n : Nat} (hv : v ≤ 1) (hn : n ≤ 20) : ((v : Nat) : Int) * 2 ^ n ≤ 1048576 := by
  have h1 : v * 2 ^ n ≤ 1 * 2 ^ 20 := Nat.mul_le_mul hv (Nat.pow_le_pow_right (by omega) hn)
  have h2 : ((v * 2 ^ n : Nat) : Int) ≤ 1048576 := by omega
  push_cast at h2
  exact h2
theorem zshb0 {v n : Nat} : 0 ≤ ((v : Nat) : Int) * 2 ^ n := by
  have h2 : 0 ≤ ((v * 2 ^ n : Nat) : Int) := by omega
  push_cast at h2
  exact h2
theorem zac_2048 (b : Nat → Bool) (v : Int) (t r : Nat) {n : Nat} (hn : n ≤ 10) : zac b v t r n < 2048 := by
  have h := zac_b b v t r n
  have h2 : 2 ^ (n + 1) ≤ 2 ^ 11 := Nat.pow_le_pow_right (by omega) (by omega)
  omega
