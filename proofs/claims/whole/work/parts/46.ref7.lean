/-! THE REFERENCE: the text, item by item -/
/-- the character at a place, as a number; 0 behind the end -/
def zcx (T : Nat → Int) (n i : Nat) : Int := zch T n ((i : Nat) : Int)
theorem zcx_at {T : Nat → Int} {n i : Nat} (h : i < n) : zcx T n i = T i := zch_at h
theorem zcx_out {T : Nat → Int} {n i : Nat} (h : n ≤ i) : zcx T n i = 0 := zch_out (Or.inr (by omega))
theorem zcx_b {T : Nat → Int} (hT : ∀ i, 0 ≤ T i ∧ T i < 65536) (n i : Nat) : 0 ≤ zcx T n i ∧ zcx T n i < 65536 := zch_b hT n _
theorem zcx_lt {T : Nat → Int} {n i : Nat} (h : ¬ zcx T n i = 0) : i < n ∧ zcx T n i = T i := by
  have hl : i < n := Nat.lt_of_not_le (fun q => h (zcx_out q))
  exact ⟨hl, zcx_at hl⟩
/-- a number of one or two digits -/
def znv (T : Nat → Int) (n i : Nat) : Int := if 49 ≤ zcx T n i ∧ zcx T n i ≤ 57 then (if 48 ≤ zcx T n (i + 1) ∧ zcx T n (i + 1) ≤ 57 then 10 * (zcx T n i - 48) + zcx T n (i + 1) - 48 else zcx T n i - 48) else 0
def znw (T : Nat → Int) (n i : Nat) : Nat := if 49 ≤ zcx T n i ∧ zcx T n i ≤ 57 then (if 48 ≤ zcx T n (i + 1) ∧ zcx T n (i + 1) ≤ 57 then 2 else 1) else 0
def zrpt (T : Nat → Int) (n i : Nat) : Prop := (50 ≤ zcx T n i ∧ zcx T n i ≤ 57) ∧ zcx T n (i + 1) = 40
/-- an item passed over: whether it is one, and where that ends -/
def zpq (T : Nat → Int) (n i : Nat) : Int × Nat := if zcx T n i = 46 ∨ zcx T n i = 95 then (if 0 < znv T n (i + 1) then 1 else 0, i + 1 + znw T n (i + 1)) else if zdg (zcx T n i) = -5 then (0, i) else if zdg (zcx T n (i + 1)) = -5 then (0, i + 1) else (1, i + 2)
theorem zdd_n {c d : Int} (h : ¬ c = 40) (h2 : ¬ c = 41) : zdd c d = d := zdd_same h h2
theorem zfa_go {T : Nat → Int} {n i : Nat} {q d : Int} (p d' : Int) (h : i < n) (hp : zpl q (T i) d = p) (h6 : ¬ p = 6) (hd : zdd (T i) d = d') : zfa T n (n - i) q d = zfa T n (n - (i + 1)) p d' := by
  rw [zfa_s h, hp, if_neg h6, hd]
theorem zfa_no {T : Nat → Int} {n i : Nat} {q d : Int} (h : i < n) (hp : zpl q (T i) d = 6) : zfa T n (n - i) q d = (i : Int) := by
  rw [zfa_s h, hp, if_pos rfl]
theorem zfa_end {T : Nat → Int} {n i : Nat} {q d : Int} (h : n ≤ i) (hq : ¬ (q = 5 ∨ q = 4)) : zfa T n (n - i) q d = (n : Int) := by
  rw [zfa_e h, if_neg (fun z => hq z.1)]
theorem zpi_s {c : Int} (h : c = 46 ∨ c = 95) : zpi c = 3 := if_pos h
theorem zpi_2 {c : Int} (h : 50 ≤ c ∧ c ≤ 57) : zpi c = 2 := (if_neg (by omega)).trans (if_pos h)
theorem zpi_1 {c : Int} (h0 : ¬ (c = 46 ∨ c = 95)) (h : ¬ (50 ≤ c ∧ c ≤ 57)) (h2 : ¬ zdg c = -5) : zpi c = 1 := (if_neg h0).trans ((if_neg h).trans (if_neg h2))
theorem zpi_6 {c : Int} (h0 : ¬ (c = 46 ∨ c = 95)) (h : ¬ (50 ≤ c ∧ c ≤ 57)) (h2 : zdg c = -5) : zpi c = 6 := (if_neg h0).trans ((if_neg h).trans (if_pos h2))
theorem zpd_6 {c : Int} (h : zdg c = -5) : zpd c = 6 := if_pos h
theorem zpd_5 {c : Int} (h : ¬ zdg c = -5) : zpd c = 5 := if_neg h
theorem zpl_34 {c d : Int} (h : 49 ≤ c ∧ c ≤ 57) : zpl 3 c d = 4 := if_pos h
theorem zpl_36 {c d : Int} (h : ¬ (49 ≤ c ∧ c ≤ 57)) : zpl 3 c d = 6 := if_neg h
theorem zpl_45 {c d : Int} (h : 48 ≤ c ∧ c ≤ 57) : zpl 4 c d = 5 := if_pos h
theorem zpl_4b {c d : Int} (h : ¬ (48 ≤ c ∧ c ≤ 57)) : zpl 4 c d = zpl 5 c d := if_neg h
theorem zpl_20 {c d : Int} (h : c = 40) : zpl 2 c d = 0 := if_pos h
theorem zpl_2d {c d : Int} (h : ¬ c = 40) : zpl 2 c d = zpd c := if_neg h
theorem zfa_rpt {T : Nat → Int} {n i : Nat} {d : Int} (h : zrpt T n i) : i + 1 < n ∧ zfa T n (n - i) 0 d = zfa T n (n - (i + 2)) 0 (d + 1) := by
  obtain ⟨h1, h2⟩ := h
  have hi := zcx_lt (T := T) (n := n) (i := i) (by omega)
  have hj := zcx_lt (T := T) (n := n) (i := i + 1) (by omega)
  refine ⟨hj.1, ?_⟩
  have ht : T i = zcx T n i := hi.2.symm
  have ht2 : T (i + 1) = 40 := hj.2.symm.trans h2
  exact (zfa_go (q := 0) (i := i) 2 d hi.1 (zpi_2 (by omega)) (by decide) (zdd_n (by omega) (by omega))).trans (zfa_go (q := 2) (i := i + 1) 0 (d + 1) hj.1 (zpl_20 ht2) (by decide) (if_pos ht2))
theorem zfa_45 {T : Nat → Int} {n j : Nat} {d : Int} (h : ¬ (48 ≤ zcx T n j ∧ zcx T n j ≤ 57)) : zfa T n (n - j) 4 d = zfa T n (n - j) 5 d := by
  by_cases hj : j < n
  · rw [zfa_s hj, zfa_s hj]
    have hp : zpl 4 (T j) d = zpl 5 (T j) d := by
      have ht : T j = zcx T n j := (zcx_at hj).symm
      exact zpl_4b (by rw [ht]; exact h)
    rw [hp]
  · rw [zfa_e (by omega), zfa_e (by omega)]
    by_cases hd : d = 0
    · rw [if_pos ⟨Or.inr rfl, hd⟩, if_pos ⟨Or.inl rfl, hd⟩]
    · rw [if_neg (fun q => hd q.2), if_neg (fun q => hd q.2)]
theorem zdg_0 : zdg 0 = -5 := by decide
theorem zdg_r {c : Int} (h : ¬ zdg c = -5) : (48 ≤ c ∧ c ≤ 57) ∨ (97 ≤ c ∧ c ≤ 102) := zdg_ne h
theorem zfa_item {T : Nat → Int} {n i : Nat} {d : Int} (hr : ¬ zrpt T n i) (h : (zpq T n i).1 = 1) : i + 2 ≤ (zpq T n i).2 ∧ (zpq T n i).2 ≤ n ∧ zfa T n (n - i) 0 d = zfa T n (n - (zpq T n i).2) 5 d := by
  unfold zpq at h ⊢
  by_cases hs : zcx T n i = 46 ∨ zcx T n i = 95
  · rw [if_pos hs] at h ⊢
    have hv : 0 < znv T n (i + 1) := by
      by_cases q : 0 < znv T n (i + 1)
      · exact q
      · have h' : (if 0 < znv T n (i + 1) then (1 : Int) else 0) = 1 := h
        rw [if_neg q] at h'
        exact absurd h' (by decide)
    have hd1 : 49 ≤ zcx T n (i + 1) ∧ zcx T n (i + 1) ≤ 57 := by
      by_cases q : 49 ≤ zcx T n (i + 1) ∧ zcx T n (i + 1) ≤ 57
      · exact q
      · unfold znv at hv
        rw [if_neg q] at hv
        exact absurd hv (by decide)
    have hi := zcx_lt (T := T) (n := n) (i := i) (by omega)
    have hj := zcx_lt (T := T) (n := n) (i := i + 1) (by omega)
    have ht : T i = zcx T n i := hi.2.symm
    have ht2 : T (i + 1) = zcx T n (i + 1) := hj.2.symm
    have h3 : zfa T n (n - i) 0 d = zfa T n (n - (i + 2)) 4 d := (zfa_go (q := 0) (i := i) 3 d hi.1 (zpi_s (by omega)) (by decide) (zdd_n (by omega) (by omega))).trans (zfa_go (q := 3) (i := i + 1) 4 d hj.1 (zpl_34 (by omega)) (by decide) (zdd_n (by omega) (by omega)))
    by_cases hd2 : 48 ≤ zcx T n (i + 1 + 1) ∧ zcx T n (i + 1 + 1) ≤ 57
    · have hw : znw T n (i + 1) = 2 := by unfold znw; rw [if_pos hd1, if_pos hd2]
      have hk := zcx_lt (T := T) (n := n) (i := i + 1 + 1) (by omega)
      have ht3 : T (i + 1 + 1) = zcx T n (i + 1 + 1) := hk.2.symm
      have hk1 := hk.1
      show i + 2 ≤ i + 1 + znw T n (i + 1) ∧ i + 1 + znw T n (i + 1) ≤ n ∧ _ = zfa T n (n - (i + 1 + znw T n (i + 1))) 5 d
      rw [hw]
      refine ⟨by omega, by omega, ?_⟩
      exact h3.trans (zfa_go (q := 4) (i := i + 1 + 1) 5 d hk.1 (zpl_45 (by omega)) (by decide) (zdd_n (by omega) (by omega)))
    · have hw : znw T n (i + 1) = 1 := by unfold znw; rw [if_pos hd1, if_neg hd2]
      have hj1 := hj.1
      show i + 2 ≤ i + 1 + znw T n (i + 1) ∧ i + 1 + znw T n (i + 1) ≤ n ∧ _ = zfa T n (n - (i + 1 + znw T n (i + 1))) 5 d
      rw [hw]
      exact ⟨by omega, by omega, h3.trans (zfa_45 hd2)⟩
  · rw [if_neg hs] at h ⊢
    by_cases h1 : zdg (zcx T n i) = -5
    · rw [if_pos h1] at h
      exact absurd h (show ¬ (0 : Int) = 1 by decide)
    · rw [if_neg h1] at h ⊢
      by_cases h2 : zdg (zcx T n (i + 1)) = -5
      · rw [if_pos h2] at h
        exact absurd h (show ¬ (0 : Int) = 1 by decide)
      · rw [if_neg h2]
        have hi := zcx_lt (T := T) (n := n) (i := i) (fun q => h1 (by rw [q]; exact zdg_0))
        have hj := zcx_lt (T := T) (n := n) (i := i + 1) (fun q => h2 (by rw [q]; exact zdg_0))
        have r1 := zdg_r h1
        have r2 := zdg_r h2
        have ht : T i = zcx T n i := hi.2.symm
        have ht2 : T (i + 1) = zcx T n (i + 1) := hj.2.symm
        have hj1 := hj.1
        refine ⟨Nat.le_refl _, by show i + 2 ≤ n; omega, ?_⟩
        show _ = zfa T n (n - (i + 2)) 5 d
        have hpd : zpd (T (i + 1)) = 5 := by unfold zpd; rw [ht2, if_neg h2]
        by_cases hq : 50 ≤ T i ∧ T i ≤ 57
        · exact (zfa_go (q := 0) (i := i) 2 d hi.1 (zpi_2 hq) (by decide) (zdd_n (by omega) (by omega))).trans (zfa_go (q := 2) (i := i + 1) 5 d hj.1 ((zpl_2d (by omega)).trans hpd) (by decide) (zdd_n (by omega) (by omega)))
        · exact (zfa_go (q := 0) (i := i) 1 d hi.1 (zpi_1 (by omega) hq (by rw [ht]; exact h1)) (by decide) (zdd_n (by omega) (by omega))).trans (zfa_go (q := 1) (i := i + 1) 5 d hj.1 hpd (by decide) (zdd_n (by omega) (by omega)))
theorem zfa_bad {T : Nat → Int} {n i : Nat} {d : Int} (hr : ¬ zrpt T n i) (hin : i ≤ n) (h : ¬ (zpq T n i).1 = 1) : zfa T n (n - i) 0 d = ((zpq T n i).2 : Int) := by
  unfold zpq at h ⊢
  by_cases hs : zcx T n i = 46 ∨ zcx T n i = 95
  · rw [if_pos hs] at h ⊢
    have hv : ¬ 0 < znv T n (i + 1) := by
      intro q
      have h' : ¬ (if 0 < znv T n (i + 1) then (1 : Int) else 0) = 1 := h
      rw [if_pos q] at h'
      exact h' rfl
    have hd1 : ¬ (49 ≤ zcx T n (i + 1) ∧ zcx T n (i + 1) ≤ 57) := by
      intro q
      apply hv
      unfold znv
      rw [if_pos q]
      split <;> omega
    have hi := zcx_lt (T := T) (n := n) (i := i) (by omega)
    have hi1 := hi.1
    have ht : T i = zcx T n i := hi.2.symm
    have hw : znw T n (i + 1) = 0 := by unfold znw; rw [if_neg hd1]
    show _ = ((i + 1 + znw T n (i + 1) : Nat) : Int)
    rw [hw]
    refine (zfa_go (q := 0) (i := i) 3 d hi.1 (zpi_s (by omega)) (by decide) (zdd_n (by omega) (by omega))).trans ?_
    by_cases hj : i + 1 < n
    · have ht2 : T (i + 1) = zcx T n (i + 1) := (zcx_at hj).symm
      exact zfa_no hj (zpl_36 (by rw [ht2]; exact hd1))
    · refine (zfa_end (by omega) (by decide)).trans ?_
      omega
  · rw [if_neg hs] at h ⊢
    by_cases h1 : zdg (zcx T n i) = -5
    · rw [if_pos h1]
      show _ = ((i : Nat) : Int)
      by_cases hi : i < n
      · have ht : T i = zcx T n i := (zcx_at hi).symm
        have hnd : ¬ (50 ≤ T i ∧ T i ≤ 57) := fun q => by
          rw [ht] at q
          rw [zdg_dig (c := zcx T n i) (by omega)] at h1
          omega
        exact zfa_no hi (zpi_6 (by omega) hnd (by rw [ht]; exact h1))
      · refine (zfa_end (by omega) (by decide)).trans ?_
        omega
    · rw [if_neg h1] at h ⊢
      have hi := zcx_lt (T := T) (n := n) (i := i) (fun q => h1 (by rw [q]; exact zdg_0))
      have hi1 := hi.1
      have r1 := zdg_r h1
      have ht : T i = zcx T n i := hi.2.symm
      by_cases h2 : zdg (zcx T n (i + 1)) = -5
      · rw [if_pos h2]
        show _ = ((i + 1 : Nat) : Int)
        by_cases hq : 50 ≤ T i ∧ T i ≤ 57
        · have h40 : ¬ zcx T n (i + 1) = 40 := fun q => hr ⟨by omega, q⟩
          by_cases hj : i + 1 < n
          · have ht2 : T (i + 1) = zcx T n (i + 1) := (zcx_at hj).symm
            exact (zfa_go (q := 0) (i := i) 2 d hi.1 (zpi_2 hq) (by decide) (zdd_n (by omega) (by omega))).trans (zfa_no hj ((zpl_2d (by omega)).trans (by rw [ht2]; exact zpd_6 h2)))
          · refine (zfa_go (q := 0) (i := i) 2 d hi.1 (zpi_2 hq) (by decide) (zdd_n (by omega) (by omega))).trans ((zfa_end (by omega) (by decide)).trans ?_)
            omega
        · by_cases hj : i + 1 < n
          · have ht2 : T (i + 1) = zcx T n (i + 1) := (zcx_at hj).symm
            exact (zfa_go (q := 0) (i := i) 1 d hi.1 (zpi_1 (by omega) hq (by rw [ht]; exact h1)) (by decide) (zdd_n (by omega) (by omega))).trans (zfa_no hj (by rw [ht2]; exact zpd_6 h2))
          · refine (zfa_go (q := 0) (i := i) 1 d hi.1 (zpi_1 (by omega) hq (by rw [ht]; exact h1)) (by decide) (zdd_n (by omega) (by omega))).trans ((zfa_end (by omega) (by decide)).trans ?_)
            omega
      · rw [if_neg h2] at h
        exact absurd rfl h
theorem zfa_close {T : Nat → Int} {n j : Nat} {d : Int} (h : zcx T n j = 41) (hd : 0 < d) : j < n ∧ zfa T n (n - j) 5 d = zfa T n (n - (j + 1)) 5 (d - 1) := by
  have hj := zcx_lt (T := T) (n := n) (i := j) (by omega)
  have ht : T j = 41 := hj.2.symm.trans h
  refine ⟨hj.1, ?_⟩
  exact zfa_go 5 (d - 1) hj.1 (by rw [ht]; show zpb 41 d = 5; unfold zpb; rw [if_neg (by decide), if_pos ⟨rfl, hd⟩]) (by decide) (by rw [ht]; rfl)
theorem zfa_comma {T : Nat → Int} {n j : Nat} {d : Int} (h : zcx T n j = 44) : j < n ∧ zfa T n (n - j) 5 d = zfa T n (n - (j + 1)) 0 d := by
  have hj := zcx_lt (T := T) (n := n) (i := j) (by omega)
  have ht : T j = 44 := hj.2.symm.trans h
  refine ⟨hj.1, ?_⟩
  exact zfa_go 0 d hj.1 (by rw [ht]; rfl) (by decide) (by rw [ht]; rfl)
theorem zfa_fin {T : Nat → Int} {n : Nat} : zfa T n (n - n) 5 0 = -5 := by
  rw [zfa_e (Nat.le_refl n), if_pos ⟨Or.inl rfl, rfl⟩]
theorem zfa_not {T : Nat → Int} {n j : Nat} {d : Int} (hj : j ≤ n) (h0 : ¬ (j = n ∧ d = 0)) (h1 : ¬ zcx T n j = 44) (h2 : ¬ (0 < d ∧ zcx T n j = 41)) : zfa T n (n - j) 5 d = (j : Int) := by
  by_cases hjn : j < n
  · have ht : T j = zcx T n j := (zcx_at hjn).symm
    exact zfa_no hjn (by show zpb (T j) d = 6; unfold zpb; rw [if_neg (show ¬ T j = 44 by omega), if_neg (show ¬ (T j = 41 ∧ 0 < d) by omega)])
  · have he : j = n := by omega
    rw [zfa_e (by omega), if_neg (fun q => h0 ⟨he, q.2⟩), he]
/-- the number behind a sign of a program without fault -/
theorem znum_x {T : Nat → Int} {n i : Nat} (hf : zfree T n) (hi : i < n) (ha : zat T n i) (hs : T i = 46 ∨ T i = 95) : znv T n (i + 1) = znum T n i ∧ i + 1 + znw T n (i + 1) = i + zwid T n i := by
  have e1 : zch T n ((i : Int) + 1) = zcx T n (i + 1) := rfl
  have e2 : zch T n ((i : Int) + 2) = zcx T n (i + 1 + 1) := rfl
  rcases ztok hf hi ha with h | h | h | h | h
  · exfalso
    have := h.1
    omega
  · exfalso
    have := h.1
    omega
  · exfalso
    have := h.2.1
    omega
  · obtain ⟨_, _, hl, hd, hx⟩ := h
    have c1 : zcx T n (i + 1) = T (i + 1) := zcx_at hl
    have hd1 : 49 ≤ zcx T n (i + 1) ∧ zcx T n (i + 1) ≤ 57 := by omega
    have g1 : zdg (zcx T n (i + 1)) = zcx T n (i + 1) - 48 := zdg_dig (by omega)
    unfold znv znw znum zwid
    rw [if_pos hd1, if_pos hd1, e1, e2, g1]
    rcases hx with ⟨hl2, hd2, _⟩ | ⟨hx, _⟩
    · have c2 : zcx T n (i + 1 + 1) = T (i + 2) := zcx_at hl2
      have g2 : zdg (zcx T n (i + 1 + 1)) = zcx T n (i + 1 + 1) - 48 := zdg_dig (by omega)
      have hd3 : 48 ≤ zcx T n (i + 1 + 1) ∧ zcx T n (i + 1 + 1) ≤ 57 := by omega
      have hn5 : ¬ zcx T n (i + 1 + 1) - 48 = -5 := by omega
      rw [if_pos hd3, if_pos hd3, g2, if_neg hn5, if_pos ⟨hs, hn5⟩]
      omega
    · have g2 : zdg (zcx T n (i + 1 + 1)) = -5 := by
        rcases hx with q | q
        · rw [zcx_out (by omega)]
          exact zdg_0
        · by_cases hl2 : i + 2 < n
          · rw [show zcx T n (i + 1 + 1) = T (i + 2) from zcx_at hl2]
            exact q
          · rw [zcx_out (by omega)]
            exact zdg_0
      have hn : ¬ (48 ≤ zcx T n (i + 1 + 1) ∧ zcx T n (i + 1 + 1) ≤ 57) := fun q => by
        rw [zdg_dig q] at g2
        omega
      rw [if_neg hn, if_neg hn, g2, if_pos rfl, if_neg (fun q => q.2 rfl)]
      exact ⟨rfl, rfl⟩
  · exfalso
    have := zdg_r h.2.1
    omega
/-- what stood in the rows ahead of the sending does not matter -/
theorem zex_ind {S : Nat → Int} {T : Nat → Int} {n : Nat} (hf : zfree T n) : ∀ (N i d : Nat) (F R F' R' : Nat → Int) (s : ZT), zat T n i → zpD T i = (d : Int) → zsk T n d F R → (∀ j, j < d → F j = F' j ∧ R j = R' j) → zex S T n N i d F R s = zex S T n N i d F' R' s
  | 0, _, _, _, _, _, _, _, _, _, _, _ => rfl
  | N + 1, i, d, F, R, F', R', s, ha, hd, hk, he => by
    unfold zex
    by_cases hin : n ≤ i
    · rw [if_pos hin, if_pos hin]
    · rw [if_neg hin, if_neg hin]
      have hi : i < n := by omega
      by_cases h1 : T i = 44
      · rw [if_pos h1, if_pos h1]
        obtain ⟨g1, g2, g3, g4⟩ := ztok_c hf hi ha h1
        exact zex_ind hf N _ _ _ _ _ _ _ g1 (by rw [g2]; exact hd) hk he
      · rw [if_neg h1, if_neg h1]
        by_cases h2 : T i = 41
        · rw [if_pos h2, if_pos h2]
          obtain ⟨g1, g2, g3, g4, g5⟩ := ztok_p hf hi ha h2
          have hd0 : 0 < d := by omega
          have hk1 := hk (d - 1) (by omega)
          have he1 := he (d - 1) (by omega)
          rw [← he1.2, ← he1.1]
          have hee : ∀ v : Int, ∀ j, j < d → F j = F' j ∧ zU R (d - 1) v j = zU R' (d - 1) v j := fun v j hj => by
            refine ⟨(he j hj).1, ?_⟩
            unfold zU
            split
            · rfl
            · exact (he j hj).2
          by_cases h3 : 0 < R (d - 1) - 1
          · rw [if_pos h3, if_pos h3]
            exact zex_ind hf N _ _ _ _ _ _ _ hk1.2.1 (by rw [hk1.2.2.2.1]; omega) (zsk_back hk hd0 h3) (hee _)
          · rw [if_neg h3, if_neg h3]
            exact zex_ind hf N _ _ _ _ _ _ _ g2 (by rw [g3, hd]; omega) (zsk_pop hk) (fun j hj => hee _ j (by omega))
        · rw [if_neg h2, if_neg h2]
          by_cases h3 : zch T n ((i : Int) + 1) = 40
          · rw [if_pos h3, if_pos h3]
            obtain ⟨g1, g2, g3, g4, g5, g6⟩ := ztok_o hf hi ha h1 h2 h3
            refine zex_ind hf N _ _ _ _ _ _ _ g4 (by rw [g6, hd]; omega) (zsk_open hk g3 g4 g5 (by rw [g6, hd]) (by rw [zdg_dig (by omega)]; omega)) (fun j hj => ?_)
            unfold zU
            by_cases hjd : j = d
            · rw [if_pos hjd, if_pos hjd, if_pos hjd, if_pos hjd]
              exact ⟨rfl, rfl⟩
            · rw [if_neg hjd, if_neg hjd, if_neg hjd, if_neg hjd]
              exact he j (by omega)
          · rw [if_neg h3, if_neg h3]
            obtain ⟨g1, g2, g3, g4, g5, g6, g7, g8⟩ := ztok_i hf hi ha h1 h2 h3
            cases hm : zitm S T n i s with
            | none => rfl
            | some s' => exact zex_ind hf N _ _ _ _ _ _ _ g5 (by rw [g6]; exact hd) hk he
/-- so the program sent comes to one thing only -/
theorem zxp_one {S : Nat → Int} {T : Nat → Int} {n : Nat} {s : ZT} {r r' : Option ZT} (hf : zfree T n) (h : zxp S T n s r) (h' : zxp S T n s r') : r = r' := by
  obtain ⟨F, R, N, h⟩ := h
  obtain ⟨F', R', h'⟩ := h'
  have h2 : zxr S T n 0 0 F' R' s r := ⟨N, by rw [← zex_ind hf N 0 0 F R F' R' s ⟨Nat.zero_le _, Or.inl rfl⟩ rfl (zsk_0 _ _ _ _) (fun j hj => absurd hj (Nat.not_lt_zero j))]; exact h⟩
  exact zxr_one h2 h'
theorem zpq_b (T : Nat → Int) (n i : Nat) : 0 ≤ (zpq T n i).1 ∧ (zpq T n i).1 ≤ 1 := by
  unfold zpq
  split
  · show 0 ≤ (if 0 < znv T n (i + 1) then (1 : Int) else 0) ∧ (if 0 < znv T n (i + 1) then (1 : Int) else 0) ≤ 1
    split <;> decide
  · split
    · exact (show (0 : Int) ≤ 0 ∧ (0 : Int) ≤ 1 by decide)
    · split
      · exact (show (0 : Int) ≤ 0 ∧ (0 : Int) ≤ 1 by decide)
      · exact (show (0 : Int) ≤ 1 ∧ (1 : Int) ≤ 1 by decide)
/-- a program's sending goes on behind an item: repeats that are due again, and a comma -/
def zgn (T : Nat → Int) (n i9 d9 : Nat) (F R9 : Nat → Int) (i d : Nat) (R : Nat → Int) : Prop := zat T n i9 ∧ (i9 = n ∨ zpP T i9 = 0) ∧ zpD T i9 = (d9 : Int) ∧ zsk T n d9 F R9 ∧ ∀ (S : Nat → Int) (s : ZT) (r : Option ZT), zxr S T n i9 d9 F R9 s r → zxr S T n i d F R s r
theorem zitok {T : Nat → Int} {n i : Nat} (hf : zfree T n) (hi : i < n) (ha : zat T n i) (hp : zpP T i = 0) (hr : ¬ zrpt T n i) : ¬ T i = 44 ∧ ¬ T i = 41 ∧ ¬ zch T n ((i : Int) + 1) = 40 := by
  rcases ztok hf hi ha with h | h | h | h | h
  · exact absurd hp h.2.2.2.2
  · exact absurd hp h.2.2.2.2.2
  · exfalso
    apply hr
    obtain ⟨_, h1, h2, h3, _⟩ := h
    exact ⟨by rw [zcx_at hi]; exact h1, by rw [zcx_at h2]; exact h3⟩
  · obtain ⟨_, h1, h2, h3, _⟩ := h
    refine ⟨by omega, by omega, ?_⟩
    show ¬ zcx T n (i + 1) = 40
    rw [zcx_at h2]
    omega
  · obtain ⟨_, h1, h2, h3, _⟩ := h
    have r1 := zdg_r h1
    have r2 := zdg_r h3
    refine ⟨by omega, by omega, ?_⟩
    show ¬ zcx T n (i + 1) = 40
    rw [zcx_at h2]
    omega
theorem zend {T : Nat → Int} {n i : Nat} (hf : zfree T n) (ha : zat T n i) (hp : ¬ zpP T i = 0) (h1 : ¬ zcx T n i = 44) (h2 : ¬ zcx T n i = 41) : i = n := by
  by_cases hi : i < n
  · exfalso
    rw [zcx_at hi] at h1 h2
    rcases ztok hf hi ha with h | h | h | h | h
    · exact h1 h.1
    · exact h2 h.1
    · exact hp h.1
    · exact hp h.1
    · exact hp h.1
  · have := ha.1
    omega
theorem zitm_sg {S : Nat → Int} {T : Nat → Int} {n i : Nat} {s t : ZT} (hs : T i = 46 ∨ T i = 95) (h : zitm S T n i s = some t) : znum T n i ≤ 1500 - (s.2.2.1 : Int) ∧ t = (zsb s.1 s.2.2.1 (zlevel (T i)) (znum T n i).toNat, s.2.1, s.2.2.1 + (znum T n i).toNat, s.2.2.2) := by
  unfold zitm at h
  rw [if_pos hs] at h
  by_cases hr : znum T n i ≤ 1500 - (s.2.2.1 : Int)
  · rw [if_pos hr] at h
    exact ⟨hr, (Option.some.inj h).symm⟩
  · rw [if_neg hr] at h
    cases h
theorem zitm_sn {S : Nat → Int} {T : Nat → Int} {n i : Nat} {s : ZT} (hs : T i = 46 ∨ T i = 95) (h : zitm S T n i s = none) : 1500 - (s.2.2.1 : Int) < znum T n i := by
  unfold zitm at h
  rw [if_pos hs] at h
  by_cases hr : znum T n i ≤ 1500 - (s.2.2.1 : Int)
  · rw [if_pos hr] at h
    cases h
  · omega
theorem zitm_wd {S : Nat → Int} {T : Nat → Int} {n i : Nat} {s t : ZT} (hs : ¬ (T i = 46 ∨ T i = 95)) (h : zitm S T n i s = some t) : ztk S ≤ 1500 - (s.2.2.1 : Int) ∧ t = (zaw s.1 S s.2.2.1 (zdg (T i) * 16 + zdg (zch T n ((i : Int) + 1))).toNat (zbn S).toNat, zU s.2.1 s.2.2.2 (zdg (T i) * 16 + zdg (zch T n ((i : Int) + 1))), s.2.2.1 + (ztk S).toNat, s.2.2.2 + 1) := by
  unfold zitm at h
  rw [if_neg hs] at h
  by_cases hr : ztk S ≤ 1500 - (s.2.2.1 : Int)
  · rw [if_pos hr] at h
    exact ⟨hr, (Option.some.inj h).symm⟩
  · rw [if_neg hr] at h
    cases h
theorem zitm_wn {S : Nat → Int} {T : Nat → Int} {n i : Nat} {s : ZT} (hs : ¬ (T i = 46 ∨ T i = 95)) (h : zitm S T n i s = none) : 1500 - (s.2.2.1 : Int) < ztk S := by
  unfold zitm at h
  rw [if_neg hs] at h
  by_cases hr : ztk S ≤ 1500 - (s.2.2.1 : Int)
  · rw [if_pos hr] at h
    cases h
  · omega
