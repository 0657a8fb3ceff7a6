/-! THE SENDING OF A PROGRAM, step by step -/
theorem zxr_done {S : Nat → Int} {T : Nat → Int} {n i d : Nat} {F R : Nat → Int} {s : ZT} (h : n ≤ i) : zxr S T n i d F R s (some s) := ⟨1, by unfold zex; rw [if_pos h]⟩
theorem zxr_comma {S : Nat → Int} {T : Nat → Int} {n i d : Nat} {F R : Nat → Int} {s : ZT} {r : Option ZT} (hi : i < n) (hc : T i = 44) (h : zxr S T n (i + 1) d F R s r) : zxr S T n i d F R s r := by
  obtain ⟨N, hN⟩ := h
  refine ⟨N + 1, ?_⟩
  unfold zex
  rw [if_neg (by omega), if_pos hc]
  exact hN
theorem zxr_back {S : Nat → Int} {T : Nat → Int} {n i d : Nat} {F R : Nat → Int} {s : ZT} {r : Option ZT} (hi : i < n) (hc : T i = 41) (hr : 0 < R (d - 1) - 1) (h : zxr S T n (F (d - 1)).toNat d F (zU R (d - 1) (R (d - 1) - 1)) s r) : zxr S T n i d F R s r := by
  obtain ⟨N, hN⟩ := h
  refine ⟨N + 1, ?_⟩
  unfold zex
  rw [if_neg (by omega), if_neg (by omega), if_pos hc, if_pos hr]
  exact hN
theorem zxr_pop {S : Nat → Int} {T : Nat → Int} {n i d : Nat} {F R : Nat → Int} {s : ZT} {r : Option ZT} (hi : i < n) (hc : T i = 41) (hr : ¬ 0 < R (d - 1) - 1) (h : zxr S T n (i + 1) (d - 1) F (zU R (d - 1) (R (d - 1) - 1)) s r) : zxr S T n i d F R s r := by
  obtain ⟨N, hN⟩ := h
  refine ⟨N + 1, ?_⟩
  unfold zex
  rw [if_neg (by omega), if_neg (by omega), if_pos hc, if_neg hr]
  exact hN
theorem zxr_open {S : Nat → Int} {T : Nat → Int} {n i d : Nat} {F R : Nat → Int} {s : ZT} {r : Option ZT} (hi : i < n) (hc : ¬ T i = 44) (hc2 : ¬ T i = 41) (hp : zch T n ((i : Int) + 1) = 40) (h : zxr S T n (i + 2) (d + 1) (zU F d ((i + 2 : Nat) : Int)) (zU R d (zdg (T i))) s r) : zxr S T n i d F R s r := by
  obtain ⟨N, hN⟩ := h
  refine ⟨N + 1, ?_⟩
  unfold zex
  rw [if_neg (by omega), if_neg hc, if_neg hc2, if_pos hp]
  exact hN
theorem zxr_full {S : Nat → Int} {T : Nat → Int} {n i d : Nat} {F R : Nat → Int} {s : ZT} (hi : i < n) (hc : ¬ T i = 44) (hc2 : ¬ T i = 41) (hp : ¬ zch T n ((i : Int) + 1) = 40) (hm : zitm S T n i s = none) : zxr S T n i d F R s none := by
  refine ⟨1, ?_⟩
  unfold zex
  rw [if_neg (by omega), if_neg hc, if_neg hc2, if_neg hp, hm]
theorem zxr_item {S : Nat → Int} {T : Nat → Int} {n i d : Nat} {F R : Nat → Int} {s s' : ZT} {r : Option ZT} (hi : i < n) (hc : ¬ T i = 44) (hc2 : ¬ T i = 41) (hp : ¬ zch T n ((i : Int) + 1) = 40) (hm : zitm S T n i s = some s') (h : zxr S T n (i + zwid T n i) d F R s' r) : zxr S T n i d F R s r := by
  obtain ⟨N, hN⟩ := h
  refine ⟨N + 1, ?_⟩
  unfold zex
  rw [if_neg (by omega), if_neg hc, if_neg hc2, if_neg hp, hm]
  exact hN
/-- what stands open: where each repeat begins, and how often it is still due -/
def zsk (T : Nat → Int) (n d : Nat) (F R : Nat → Int) : Prop := ∀ j, j < d → (0 ≤ F j ∧ F j < n) ∧ zat T n (F j).toNat ∧ zpP T (F j).toNat = 0 ∧ zpD T (F j).toNat = (j : Int) + 1 ∧ 1 ≤ R j ∧ R j ≤ 9
theorem zsk_0 (T : Nat → Int) (n : Nat) (F R : Nat → Int) : zsk T n 0 F R := fun j h => absurd h (Nat.not_lt_zero j)
theorem zsk_pop {T : Nat → Int} {n d : Nat} {F R : Nat → Int} {v : Int} (h : zsk T n d F R) : zsk T n (d - 1) F (zU R (d - 1) v) := by
  intro j hj
  obtain ⟨h1, h2, h3, h4, h5, h6⟩ := h j (by omega)
  refine ⟨h1, h2, h3, h4, ?_⟩
  rw [zU_n (by omega)]
  exact ⟨h5, h6⟩
theorem zsk_back {T : Nat → Int} {n d : Nat} {F R : Nat → Int} (h : zsk T n d F R) (hd : 0 < d) (hr : 0 < R (d - 1) - 1) : zsk T n d F (zU R (d - 1) (R (d - 1) - 1)) := by
  intro j hj
  obtain ⟨h1, h2, h3, h4, h5, h6⟩ := h j hj
  refine ⟨h1, h2, h3, h4, ?_⟩
  by_cases e : j = d - 1
  · subst e
    rw [zU_s]
    omega
  · rw [zU_n e]
    exact ⟨h5, h6⟩
theorem zsk_open {T : Nat → Int} {n d i : Nat} {F R : Nat → Int} {v : Int} (h : zsk T n d F R) (hi : i < n) (ha : zat T n i) (hp : zpP T i = 0) (hd : zpD T i = (d : Int) + 1) (hv : 1 ≤ v ∧ v ≤ 9) : zsk T n (d + 1) (zU F d (i : Int)) (zU R d v) := by
  intro j hj
  by_cases e : j = d
  · subst e
    rw [zU_s, zU_s, Int.toNat_natCast]
    exact ⟨by omega, ha, hp, hd, hv⟩
  · rw [zU_n e, zU_n e]
    exact h j (by omega)
/-- an open '(' behind i needs a character there: an item does not end the text -/
theorem zopen_lt {T : Nat → Int} {n i : Nat} (hf : zfree T n) (h : zat T n i) (hp : zpP T i = 0) : i < n := by
  obtain ⟨h1, -⟩ := h
  apply Nat.lt_of_le_of_ne h1
  intro q
  have := hf.2.1
  rw [← q, hp] at this
  omega
/-- how much can still happen -/
def zme (T : Nat → Int) (i e : Nat) : Nat := (1500 - e) * 400 + (if zpP T i = 0 then 60 - i else 300 - i)
theorem znum_b {T : Nat → Int} {n i : Nat} (hi : i + 1 < n) (h : 49 ≤ T (i + 1) ∧ T (i + 1) ≤ 57) (h2 : (i + 2 < n ∧ (48 ≤ T (i + 2) ∧ T (i + 2) ≤ 57)) ∨ (i + 2 = n ∨ zdg (T (i + 2)) = -5)) : 1 ≤ znum T n i ∧ znum T n i ≤ 99 := by
  have e1 : zch T n ((i : Int) + 1) = T (i + 1) := zch_at (i := i + 1) hi
  have d1 : zdg (T (i + 1)) = T (i + 1) - 48 := zdg_dig (by omega)
  unfold znum
  rw [e1, d1]
  split
  · omega
  · rename_i q
    by_cases h3 : i + 2 < n
    · have e2 : zch T n ((i : Int) + 2) = T (i + 2) := zch_at (i := i + 2) h3
      rw [e2] at q ⊢
      rcases h2 with g | g | g
      · rw [zdg_dig g.2]
        omega
      · omega
      · exact absurd g q
    · rw [zch_out (by omega)] at q
      exact absurd rfl q
theorem zwid_s {T : Nat → Int} {n i : Nat} (hs : T i = 46 ∨ T i = 95) : zwid T n i = if zdg (zch T n ((i : Int) + 2)) = -5 then 2 else 3 := by
  unfold zwid
  by_cases q : zdg (zch T n ((i : Int) + 2)) = -5
  · rw [if_neg (fun z => z.2 q), if_pos q]
  · rw [if_pos ⟨hs, q⟩, if_neg q]
theorem zwid_w {T : Nat → Int} {n i : Nat} (hs : ¬ (T i = 46 ∨ T i = 95)) : zwid T n i = 2 := if_neg (fun z => hs z.1)
/-- what an item does to the state -/
theorem zitm_I {S : Nat → Int} {T : Nat → Int} {n i : Nat} {b : Nat → Bool} {W : Nat → Int} {e k : Nat} {s' : ZT} (hI : zI b W S e k) (hn : (T i = 46 ∨ T i = 95) → 1 ≤ znum T n i ∧ znum T n i ≤ 99) (hw : ¬ (T i = 46 ∨ T i = 95) → 0 ≤ zdg (T i) * 16 + zdg (zch T n ((i : Int) + 1)) ∧ zdg (T i) * 16 + zdg (zch T n ((i : Int) + 1)) ≤ 255) (hm : zitm S T n i (b, W, e, k) = some s') : zI s'.1 s'.2.1 S s'.2.2.1 s'.2.2.2 ∧ e + 1 ≤ s'.2.2.1 := by
  unfold zitm at hm
  split at hm
  · rename_i q
    have hnb := hn q
    split at hm
    · rename_i q2
      cases hm
      exact ⟨zI_stretch _ hI (by omega), by show e + 1 ≤ e + (znum T n i).toNat; omega⟩
    · cases hm
  · rename_i q
    have hwb := hw q
    split at hm
    · rename_i q2
      cases hm
      have hI2 := hI
      obtain ⟨he, hk, hb, s0, s1, s2, s3, s4, hw9⟩ := hI2
      have ht := ztk_b s3 s0
      have hz := zI_word (w := (zdg (T i) * 16 + zdg (zch T n ((i : Int) + 1))).toNat) hI (by omega) q2
      rw [Int.toNat_of_nonneg hwb.1] at hz
      exact ⟨hz, by show e + 1 ≤ e + (ztk S).toNat; omega⟩
    · cases hm
/-- what a token that is an item gives -/
theorem zword_b {a c : Int} (ha : ¬ zdg a = -5) (hc : ¬ zdg c = -5) : 0 ≤ zdg a * 16 + zdg c ∧ zdg a * 16 + zdg c ≤ 255 := by
  have h1 : 0 ≤ zdg a ∧ zdg a ≤ 15 := by
    rcases zdg_ne ha with q | q
    · rw [zdg_dig q]; omega
    · unfold zdg; rw [if_neg (by omega), if_pos q]; omega
  have h2 : 0 ≤ zdg c ∧ zdg c ≤ 15 := by
    rcases zdg_ne hc with q | q
    · rw [zdg_dig q]; omega
    · unfold zdg; rw [if_neg (by omega), if_pos q]; omega
  omega
theorem zfa_s {T : Nat → Int} {n i : Nat} {q d : Int} (h : i < n) : zfa T n (n - i) q d = if zpl q (T i) d = 6 then (i : Int) else zfa T n (n - (i + 1)) (zpl q (T i) d) (zdd (T i) d) := by
  obtain ⟨m, hm⟩ : ∃ m, n - i = m + 1 := ⟨n - i - 1, by omega⟩
  rw [hm]
  show (if zpl q (T (n - (m + 1))) d = 6 then ((n - (m + 1) : Nat) : Int) else zfa T n m (zpl q (T (n - (m + 1))) d) (zdd (T (n - (m + 1))) d)) = _
  rw [show n - (m + 1) = i by omega, show n - (i + 1) = m by omega]
theorem zfa_e {T : Nat → Int} {n i : Nat} {q d : Int} (h : n ≤ i) : zfa T n (n - i) q d = if (q = 5 ∨ q = 4) ∧ d = 0 then -5 else (n : Int) := by
  rw [show n - i = 0 by omega]
  rfl
theorem zNc {v : Int} (h : 0 ≤ v ∧ v < 65536) : narrow .char (.int (iI v)) = .int (iI v) := by
  rw [iI_nat' h.1]
  exact (pk_charN (by omega)).1
theorem zme_item {T : Nat → Int} {i j e e' : Nat} (hp : zpP T i = 0) (he : e + 1 ≤ e') (he2 : e' ≤ 1500) (hj : j ≤ 60) : zme T j e' + 100 ≤ zme T i e := by
  unfold zme
  rw [if_pos hp]
  split <;> omega
theorem zme_fwd {T : Nat → Int} {i j e : Nat} (h : (zpP T i = 0 → zpP T j = 0) ) (hij : i < j) (hj : j ≤ 60) : zme T j e + 1 ≤ zme T i e := by
  unfold zme
  by_cases q : zpP T i = 0
  · rw [if_pos q, if_pos (h q)]
    omega
  · rw [if_neg q]
    split <;> omega
theorem zme_back {T : Nat → Int} {i j e : Nat} (h : ¬ zpP T i = 0) (h2 : zpP T j = 0) (hi : i ≤ 60) : zme T j e + 1 ≤ zme T i e := by
  unfold zme
  rw [if_neg h, if_pos h2]
  omega
theorem ztok_c {T : Nat → Int} {n i : Nat} (hf : zfree T n) (hi : i < n) (ha : zat T n i) (hc : T i = 44) : zat T n (i + 1) ∧ zpD T (i + 1) = zpD T i ∧ zpP T (i + 1) = 0 ∧ ¬ zpP T i = 0 := by
  rcases ztok hf hi ha with h | h | h | h | h
  · exact h.2
  · omega
  · omega
  · omega
  · have := zdg_ne h.2.1
    omega
theorem ztok_p {T : Nat → Int} {n i : Nat} (hf : zfree T n) (hi : i < n) (ha : zat T n i) (hc : T i = 41) : 0 < zpD T i ∧ zat T n (i + 1) ∧ zpD T (i + 1) = zpD T i - 1 ∧ zpP T (i + 1) = 5 ∧ ¬ zpP T i = 0 := by
  rcases ztok hf hi ha with h | h | h | h | h
  · omega
  · exact h.2
  · omega
  · omega
  · have := zdg_ne h.2.1
    omega
theorem ztok_o {T : Nat → Int} {n i : Nat} (hf : zfree T n) (hi : i < n) (ha : zat T n i) (hc : ¬ T i = 44) (hc2 : ¬ T i = 41) (hp : zch T n ((i : Int) + 1) = 40) : zpP T i = 0 ∧ (50 ≤ T i ∧ T i ≤ 57) ∧ i + 2 < n ∧ zat T n (i + 2) ∧ zpP T (i + 2) = 0 ∧ zpD T (i + 2) = zpD T i + 1 := by
  have e1 : i + 1 < n → zch T n ((i : Int) + 1) = T (i + 1) := fun h => zch_at (i := i + 1) h
  rcases ztok hf hi ha with h | h | h | h | h
  · omega
  · omega
  · obtain ⟨h1, h2, h3, h4, h5, h6, h7⟩ := h
    exact ⟨h1, h2, zopen_lt hf h5 h6, h5, h6, h7⟩
  · rw [e1 h.2.2.1] at hp
    omega
  · rw [e1 h.2.2.1] at hp
    have := zdg_ne h.2.2.2.1
    omega
theorem ztok_i {T : Nat → Int} {n i : Nat} (hf : zfree T n) (hi : i < n) (ha : zat T n i) (hc : ¬ T i = 44) (hc2 : ¬ T i = 41) (hp : ¬ zch T n ((i : Int) + 1) = 40) : zpP T i = 0 ∧ i + 1 < n ∧ ((T i = 46 ∨ T i = 95) → 1 ≤ znum T n i ∧ znum T n i ≤ 99) ∧ (¬ (T i = 46 ∨ T i = 95) → 0 ≤ zdg (T i) * 16 + zdg (zch T n ((i : Int) + 1)) ∧ zdg (T i) * 16 + zdg (zch T n ((i : Int) + 1)) ≤ 255) ∧ zat T n (i + zwid T n i) ∧ zpD T (i + zwid T n i) = zpD T i ∧ (zwid T n i = 2 ∨ zwid T n i = 3) ∧ ¬ zpP T (i + zwid T n i) = 0 := by
  have e1 : i + 1 < n → zch T n ((i : Int) + 1) = T (i + 1) := fun h => zch_at (i := i + 1) h
  rcases ztok hf hi ha with h | h | h | h | h
  · omega
  · omega
  · rw [e1 h.2.2.1] at hp
    omega
  · obtain ⟨p0, hs, hn1, c1, hrest⟩ := h
    refine ⟨p0, hn1, fun _ => znum_b hn1 c1 ?_, fun q => absurd hs q, ?_⟩
    · rcases hrest with ⟨g1, g2, -⟩ | ⟨g, -⟩
      · exact Or.inl ⟨g1, g2⟩
      · exact Or.inr g
    · rcases hrest with ⟨g1, g2, g3, g4, g5⟩ | ⟨g, g3, g4, g5⟩
      · have e2 : zch T n ((i : Int) + 2) = T (i + 2) := zch_at (i := i + 2) g1
        have w : zwid T n i = 3 := by
          rw [zwid_s hs, e2, if_neg]
          rw [zdg_dig g2]
          omega
        rw [w]
        exact ⟨g3, g5, Or.inr rfl, by omega⟩
      · have w : zwid T n i = 2 := by
          rw [zwid_s hs, if_pos]
          rcases g with g | g
          · rw [zch_out (by omega)]
            rfl
          · by_cases h3 : i + 2 < n
            · rw [show zch T n ((i : Int) + 2) = T (i + 2) from zch_at (i := i + 2) h3]
              exact g
            · rw [zch_out (by omega)]
              rfl
        rw [w]
        exact ⟨g3, g5, Or.inl rfl, by omega⟩
  · obtain ⟨p0, g1, hn1, g2, g3, g4, g5⟩ := h
    have hx := zdg_ne g1
    have hns : ¬ (T i = 46 ∨ T i = 95) := by omega
    refine ⟨p0, hn1, fun q => absurd q hns, fun _ => ?_, ?_⟩
    · rw [e1 hn1]
      exact zword_b g1 g2
    · rw [zwid_w hns]
      exact ⟨g3, g5, Or.inl rfl, by omega⟩
