/-! THE LAW: a word put on the wire bit by bit, and what is learned tick by tick -/
/-- the level of the bit i of a word, as the law tells it -/
def zlx (S : Nat → Int) (w i : Nat) : Int := if i = 0 then 0 else if i < 9 then ((w / 2 ^ (i - 1) % 2 : Nat) : Int) else if i = 9 ∧ ¬ S 2 = 0 then zpar (S 2) w else 1
theorem zlx_t (S : Nat → Int) {w i : Nat} (hw : w ≤ 255) (hi : i < 11 ∨ (i < 12 ∧ ¬ S 2 = 0)) : zlx S w i = zB (zbt S w i) := by
  rw [← zbt_v]
  have hp := zpar_b (S 2) w
  unfold zlx zbits
  by_cases h2 : S 2 = 0
  · rw [if_pos h2]
    have hi2 : i < 11 := hi.resolve_right (fun q => q.2 h2)
    rcases (show i = 0 ∨ i = 1 ∨ i = 2 ∨ i = 3 ∨ i = 4 ∨ i = 5 ∨ i = 6 ∨ i = 7 ∨ i = 8 ∨ i = 9 ∨ i = 10 by omega) with q | q | q | q | q | q | q | q | q | q | q
    · subst q; show (0 : Int) = (2 * (w : Int) + 1536) / 1 % 2; omega
    · subst q; show ((w / 1 % 2 : Nat) : Int) = (2 * (w : Int) + 1536) / 2 % 2; omega
    · subst q; show ((w / 2 % 2 : Nat) : Int) = (2 * (w : Int) + 1536) / 4 % 2; omega
    · subst q; show ((w / 4 % 2 : Nat) : Int) = (2 * (w : Int) + 1536) / 8 % 2; omega
    · subst q; show ((w / 8 % 2 : Nat) : Int) = (2 * (w : Int) + 1536) / 16 % 2; omega
    · subst q; show ((w / 16 % 2 : Nat) : Int) = (2 * (w : Int) + 1536) / 32 % 2; omega
    · subst q; show ((w / 32 % 2 : Nat) : Int) = (2 * (w : Int) + 1536) / 64 % 2; omega
    · subst q; show ((w / 64 % 2 : Nat) : Int) = (2 * (w : Int) + 1536) / 128 % 2; omega
    · subst q; show ((w / 128 % 2 : Nat) : Int) = (2 * (w : Int) + 1536) / 256 % 2; omega
    · subst q
      rw [if_neg (by decide), if_neg (by decide), if_neg (fun z => z.2 h2)]
      show (1 : Int) = (2 * (w : Int) + 1536) / 512 % 2
      omega
    · subst q
      rw [if_neg (by decide), if_neg (by decide), if_neg (fun z => z.2 h2)]
      show (1 : Int) = (2 * (w : Int) + 1536) / 1024 % 2
      omega
  · rw [if_neg h2]
    have hi2 : i < 12 := by omega
    obtain ⟨y, hy⟩ : ∃ y : Int, zpar (S 2) w = y := ⟨_, rfl⟩
    rw [hy] at hp ⊢
    rcases (show i = 0 ∨ i = 1 ∨ i = 2 ∨ i = 3 ∨ i = 4 ∨ i = 5 ∨ i = 6 ∨ i = 7 ∨ i = 8 ∨ i = 9 ∨ i = 10 ∨ i = 11 by omega) with q | q | q | q | q | q | q | q | q | q | q | q
    · subst q; show (0 : Int) = (2 * (w : Int) + 512 * y + 3072) / 1 % 2; omega
    · subst q; show ((w / 1 % 2 : Nat) : Int) = (2 * (w : Int) + 512 * y + 3072) / 2 % 2; omega
    · subst q; show ((w / 2 % 2 : Nat) : Int) = (2 * (w : Int) + 512 * y + 3072) / 4 % 2; omega
    · subst q; show ((w / 4 % 2 : Nat) : Int) = (2 * (w : Int) + 512 * y + 3072) / 8 % 2; omega
    · subst q; show ((w / 8 % 2 : Nat) : Int) = (2 * (w : Int) + 512 * y + 3072) / 16 % 2; omega
    · subst q; show ((w / 16 % 2 : Nat) : Int) = (2 * (w : Int) + 512 * y + 3072) / 32 % 2; omega
    · subst q; show ((w / 32 % 2 : Nat) : Int) = (2 * (w : Int) + 512 * y + 3072) / 64 % 2; omega
    · subst q; show ((w / 64 % 2 : Nat) : Int) = (2 * (w : Int) + 512 * y + 3072) / 128 % 2; omega
    · subst q; show ((w / 128 % 2 : Nat) : Int) = (2 * (w : Int) + 512 * y + 3072) / 256 % 2; omega
    · subst q
      rw [if_neg (by decide), if_neg (by decide), if_pos ⟨rfl, h2⟩]
      show y = (2 * (w : Int) + 512 * y + 3072) / 512 % 2
      omega
    · subst q
      rw [if_neg (by decide), if_neg (by decide), if_neg (fun z => absurd z.1 (by decide))]
      show (1 : Int) = (2 * (w : Int) + 512 * y + 3072) / 1024 % 2
      omega
    · subst q
      rw [if_neg (by decide), if_neg (by decide), if_neg (fun z => absurd z.1 (by decide))]
      show (1 : Int) = (2 * (w : Int) + 512 * y + 3072) / 2048 % 2
      omega
theorem zlx_0 {S : Nat → Int} {w i : Nat} (h : i = 0) : zlx S w i = 0 := if_pos h
theorem zlx_w {S : Nat → Int} {w i : Nat} (h : ¬ i = 0) (h2 : i < 9) : zlx S w i = ((w / 2 ^ (i - 1) % 2 : Nat) : Int) := (if_neg h).trans (if_pos h2)
theorem zlx_p {S : Nat → Int} {w i : Nat} (h : i = 9) (h2 : ¬ S 2 = 0) : zlx S w i = zpar (S 2) w := (if_neg (by omega)).trans ((if_neg (by omega)).trans (if_pos ⟨h, h2⟩))
theorem zlx_1 {S : Nat → Int} {w i : Nat} (h : 9 ≤ i) (h2 : ¬ (i = 9 ∧ ¬ S 2 = 0)) : zlx S w i = 1 := (if_neg (by omega)).trans ((if_neg (by omega)).trans (if_neg h2))
theorem zps_0 (S : Nat → Int) (e : Nat) : zps S e 0 = e := by
  unfold zps
  rw [Nat.zero_mul, Nat.zero_div, Nat.add_zero]
theorem zdec_B (v : Bool) : decide (zB v = 1) = v := by cases v <;> rfl
theorem zaw_next {b c : Nat → Bool} {S : Nat → Int} {e x i m : Nat} (hb : ∀ t, e ≤ t → b t = true) (hm : m = zps S e (i + 1) - zps S e i) (h : ∀ t, t < zps S e i → c t = zaw b S e x i t) : ∀ t, t < zps S e (i + 1) → zst0 c (zps S e i) m (decide (zB (zbt S x i) = 1)) t = zaw b S e x (i + 1) t := by
  intro t ht
  have hmo : zps S e i ≤ zps S e (i + 1) := zps_mono S e (Nat.le_succ i)
  have he : e ≤ zps S e i := Nat.le_add_right _ _
  rw [zdec_B]
  unfold zst0
  by_cases hti : t < zps S e i
  · rw [if_neg (by omega), h t hti]
    show _ = (if zbt S x i then zaw b S e x i else zlow (zaw b S e x i) (zps S e i) (zps S e (i + 1))) t
    split
    · rfl
    · unfold zlow
      rw [decide_eq_false (show ¬ zps S e i ≤ t by omega)]
      simp
  · rw [if_pos (by omega)]
    exact (zaw_in (by omega) ht (hb t (by omega)) 0).symm
/-- a word sent: its answer, and the state behind -/
def ySnd (s : ZS) (x : Nat) : Int × ZS := if 1500 - (s.2.2.2.1 : Int) < ztk s.2.2.1 then (-3, s) else (((zSw s x).2.2.2.1 : Int), zSw s x)
theorem zLq_word {q q1 : Nat → Int} {c c1 : Nat → Bool} {s : ZS} {x : Nat} {v6 : Int} (h : zLq q c s) (hx : x ≤ 255) (hr : ¬ 1500 - (s.2.2.2.1 : Int) < ztk s.2.2.1) (h0 : ∀ j, j < 5 → q1 j = q j) (h5 : q1 5 = ((zps s.2.2.1 s.2.2.2.1 (zbn s.2.2.1).toNat : Nat) : Int)) (h6 : v6 = ((s.2.2.2.2 + 1 : Nat) : Int)) (hc : ∀ t, t < zps s.2.2.1 s.2.2.2.1 (zbn s.2.2.1).toNat → c1 t = zaw s.1 s.2.2.1 s.2.2.2.1 x (zbn s.2.2.1).toNat t) : zLq (zU q1 6 v6) c1 (zSw s x) := by
  obtain ⟨hs, h1, h2, h3, h4⟩ := h
  have hp := zps_tk (S := s.2.2.1) s.2.2.2.1 hs.2.2.2.2.2.2.1 hs.2.2.2.1
  refine ⟨zI_word hs hx (by omega), fun i hi => ?_, ?_, ?_, fun t ht => ?_⟩
  · rw [zU_n (by omega), h0 i hi]
    exact h1 i hi
  · rw [zU_n (by decide), h5, hp]
    rfl
  · rw [zU_s, h6]
    rfl
  · exact hc t (by rw [hp]; exact ht)
theorem zLv_word {w : Nat → Int} {s : ZS} {x : Nat} {v : Int} (h : zLv w s) (hv : v = (x : Int)) : zLv (zU w s.2.2.2.2 v) (zSw s x) := by
  intro j hj
  have hj' : j < s.2.2.2.2 + 1 := hj
  show zU w s.2.2.2.2 v j = zU s.2.1 s.2.2.2.2 (x : Int) j
  rw [hv]
  unfold zU
  by_cases q : j = s.2.2.2.2
  · rw [if_pos q, if_pos q]
  · rw [if_neg q, if_neg q]
    exact h j (by omega)
/-- the falls counted so far, and the first of them -/
def zLn (b : Nat → Bool) (e t n : Nat) (z : Int) : Prop := n ≤ 4 ∧ zfs b e n = znf b e t ∧ (1 ≤ n → z = ((zfs b e 0 : Nat) : Int))
theorem zLn_0 (b : Nat → Bool) (e : Nat) (z : Int) : zLn b e 0 0 z := ⟨by omega, rfl, fun h => absurd h (by omega)⟩
theorem zLn_no {b : Nat → Bool} {e t n : Nat} {z : Int} (h : zLn b e t n z) (ht : t < e) (hf : zfall b t = false) : zLn b e (t + 1) n z := ⟨h.1, h.2.1.trans (znf_step ht hf), h.2.2⟩
theorem zLn_at {b : Nat → Bool} {e t n : Nat} {z : Int} (h : zLn b e t n z) (ht : t < e) (hf : zfall b t = true) : zfs b e n = t ∧ zfs b e (n + 1) = znf b e (t + 1) := by
  have h1 : zfs b e n = t := h.2.1.trans (znf_fall ht hf)
  refine ⟨h1, ?_⟩
  show znf b e (zfs b e n + 1) = _
  rw [h1]
theorem zLn_go {b : Nat → Bool} {e t n : Nat} {z : Int} (h : zLn b e t n z) (ht : t < e) (hf : zfall b t = true) (hn : n + 1 ≤ 4) (hn1 : ¬ n + 1 = 1) : zLn b e (t + 1) (n + 1) z := ⟨hn, (zLn_at h ht hf).2, fun _ => h.2.2 (by omega)⟩
theorem zLn_1 {b : Nat → Bool} {e t n : Nat} {z : Int} (h : zLn b e t n z) (ht : t < e) (hf : zfall b t = true) (hn1 : n + 1 = 1) : zLn b e (t + 1) (n + 1) (t : Int) := by
  obtain rfl : n = 0 := by omega
  exact ⟨by omega, (zLn_at h ht hf).2, fun _ => by rw [(zLn_at h ht hf).1]⟩
theorem zLn_5 {b : Nat → Bool} {e t n : Nat} {z : Int} (h : zLn b e t n z) (ht : t < e) (hf : zfall b t = true) (hn : n + 1 = 5) : z ≤ (t : Int) ∧ 0 ≤ z ∧ zlearn b e = if 4 ≤ ((t : Int) - z + 4) / 8 ∧ ((t : Int) - z + 4) / 8 ≤ 40 then ((t : Int) - z + 4) / 8 else -5 := by
  obtain rfl : n = 4 := by omega
  have h4 := (zLn_at h ht hf).1
  have h0 := h.2.2 (by omega)
  have hm : zfs b e 0 ≤ zfs b e 4 := zfs_mono b e 0 4
  have e4 : zfr b e 4 = (t : Int) := by
    unfold zfr
    rw [if_pos (by omega), h4]
  have e0 : zfr b e 0 = z := by
    unfold zfr
    rw [if_pos (by omega), h0]
  refine ⟨by omega, by omega, ?_⟩
  unfold zlearn
  rw [e4, e0, if_neg (by omega)]
theorem zLn_end {b : Nat → Bool} {e t n : Nat} {z : Int} (h : zLn b e t n z) (ht : e ≤ t) : zlearn b e = -5 := by
  have h1 : zfs b e n = e := h.2.1.trans (znf_end ht)
  have h2 : zfs b e 4 = e := by
    have := zfs_end h1 (4 - n)
    rwa [show n + (4 - n) = 4 by have := h.1; omega] at this
  have e4 : zfr b e 4 = -5 := if_neg (by omega)
  unfold zlearn
  rw [if_pos e4]
