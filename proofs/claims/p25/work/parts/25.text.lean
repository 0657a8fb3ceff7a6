/-! THE TEXT: its fault, and the sending of its program -/
def zdg (c : Int) : Int := if 48 ≤ c ∧ c ≤ 57 then c - 48 else if 97 ≤ c ∧ c ≤ 102 then c - 97 + 10 else -5
def zch (T : Nat → Int) (n : Nat) (i : Int) : Int := if 0 ≤ i ∧ i < n then T i.toNat else 0
def zpi (c : Int) : Int := if c = 46 ∨ c = 95 then 3 else if 50 ≤ c ∧ c ≤ 57 then 2 else if zdg c = -5 then 6 else 1
def zpd (c : Int) : Int := if zdg c = -5 then 6 else 5
def zpb (c d : Int) : Int := if c = 44 then 0 else if c = 41 ∧ 0 < d then 5 else 6
def zpl (p c d : Int) : Int := if p = 0 then zpi c else if p = 1 then zpd c else if p = 2 then (if c = 40 then 0 else zpd c) else if p = 3 then (if 49 ≤ c ∧ c ≤ 57 then 4 else 6) else if p = 4 then (if 48 ≤ c ∧ c ≤ 57 then 5 else zpb c d) else zpb c d
def zdd (c d : Int) : Int := if c = 40 then d + 1 else if c = 41 then d - 1 else d
/-- the fault, with m characters left -/
def zfa (T : Nat → Int) (n : Nat) : Nat → Int → Int → Int
  | 0, p, d => if (p = 5 ∨ p = 4) ∧ d = 0 then -5 else n
  | m + 1, p, d => if zpl p (T (n - (m + 1))) d = 6 then ((n - (m + 1) : Nat) : Int) else zfa T n m (zpl p (T (n - (m + 1))) d) (zdd (T (n - (m + 1))) d)
def zfault (T : Nat → Int) (n : Nat) : Int := zfa T n n 0 0
theorem zfa_b (T : Nat → Int) (n : Nat) : ∀ (m : Nat) (p d : Int), zfa T n m p d = -5 ∨ (0 ≤ zfa T n m p d ∧ zfa T n m p d ≤ n)
  | 0, p, d => by
    unfold zfa
    split
    · exact Or.inl rfl
    · right; omega
  | m + 1, p, d => by
    unfold zfa
    split
    · right; omega
    · exact zfa_b T n m _ _
theorem zdg_b (c : Int) : -5 ≤ zdg c ∧ zdg c ≤ 15 := by
  unfold zdg
  split
  · omega
  · split <;> omega
theorem zpl_b (p c d : Int) : 0 ≤ zpl p c d ∧ zpl p c d ≤ 6 := by
  unfold zpl zpi zpd zpb
  repeat' split
  all_goals omega
theorem zch_b {T : Nat → Int} (hT : ∀ i, 0 ≤ T i ∧ T i < 65536) (n : Nat) (i : Int) : 0 ≤ zch T n i ∧ zch T n i < 65536 := by
  unfold zch
  split
  · exact hT _
  · omega
theorem zch_at {T : Nat → Int} {n i : Nat} (h : i < n) : zch T n (i : Int) = T i := by
  unfold zch
  rw [if_pos (by omega), Int.toNat_natCast]
theorem zch_out {T : Nat → Int} {n : Nat} {i : Int} (h : i < 0 ∨ (n : Int) ≤ i) : zch T n i = 0 := by
  unfold zch
  rw [if_neg (by omega)]
/-- place and depth ahead of a character -/
def zrp (T : Nat → Int) : Nat → Int × Int
  | 0 => (0, 0)
  | i + 1 => (zpl (zrp T i).1 (T i) (zrp T i).2, zdd (T i) (zrp T i).2)
def zpP (T : Nat → Int) (i : Nat) : Int := (zrp T i).1
def zpD (T : Nat → Int) (i : Nat) : Int := (zrp T i).2
theorem zpP_s (T : Nat → Int) (i : Nat) : zpP T (i + 1) = zpl (zpP T i) (T i) (zpD T i) := rfl
theorem zpD_s (T : Nat → Int) (i : Nat) : zpD T (i + 1) = zdd (T i) (zpD T i) := rfl
def zfree (T : Nat → Int) (n : Nat) : Prop := (∀ i, i < n → ¬ zpP T (i + 1) = 6) ∧ (zpP T n = 5 ∨ zpP T n = 4) ∧ zpD T n = 0
theorem zfa_run (T : Nat → Int) (n : Nat) : ∀ m, m ≤ n → zfa T n m (zpP T (n - m)) (zpD T (n - m)) = -5 → (∀ i, n - m ≤ i → i < n → ¬ zpP T (i + 1) = 6) ∧ (zpP T n = 5 ∨ zpP T n = 4) ∧ zpD T n = 0
  | 0, _, h => by
    unfold zfa at h
    rw [Nat.sub_zero] at h
    split at h
    · rename_i q
      exact ⟨fun i h1 h2 => absurd h1 (by omega), q.1, q.2⟩
    · omega
  | m + 1, hm, h => by
    unfold zfa at h
    rw [← zpP_s, ← zpD_s, show n - (m + 1) + 1 = n - m by omega] at h
    split at h
    · omega
    · rename_i q
      obtain ⟨h1, h2⟩ := zfa_run T n m (by omega) h
      refine ⟨fun i g1 g2 => ?_, h2⟩
      by_cases e : i = n - (m + 1)
      · subst e
        rw [show n - (m + 1) + 1 = n - m by omega]
        exact q
      · exact h1 i (by omega) g2
theorem zfree_of {T : Nat → Int} {n : Nat} (h : zfault T n = -5) : zfree T n := by
  have := zfa_run T n n (Nat.le_refl n) (by rw [Nat.sub_self]; exact h)
  rw [Nat.sub_self] at this
  exact ⟨fun i hi => this.1 i (Nat.zero_le i) hi, this.2⟩
/-- the depth is small -/
theorem zdep {T : Nat → Int} {n : Nat} (h : ∀ i, i < n → ¬ zpP T (i + 1) = 6) : ∀ i, i ≤ n → 0 ≤ zpD T i ∧ 2 * zpD T i ≤ i ∧ (zpP T i = 2 → 2 * zpD T i + 1 ≤ i)
  | 0, _ => by
    show (0 : Int) ≤ 0 ∧ _ ∧ ((0 : Int) = 2 → _)
    refine ⟨Int.le_refl _, ?_, fun q => absurd q (by decide)⟩
    show 2 * (0 : Int) ≤ _
    omega
  | i + 1, hi => by
    have ih := zdep h i (by omega)
    have h6 := h i (by omega)
    rw [zpP_s] at h6 ⊢
    rw [zpD_s]
    generalize zpP T i = p at ih h6 ⊢
    generalize zpD T i = d at ih h6 ⊢
    generalize T i = c at ih h6 ⊢
    unfold zpl zpi zpd zpb at h6 ⊢
    unfold zdd
    by_cases p0 : p = 0
    · subst p0
      simp only [if_pos rfl] at h6 ⊢
      by_cases c0 : c = 40
      · subst c0; simp [zdg] at h6
      · by_cases c1 : c = 41
        · subst c1; simp [zdg] at h6
        · rw [if_neg c0, if_neg c1]
          omega
    · simp only [if_neg p0] at h6 ⊢
      by_cases c0 : c = 40
      · subst c0
        by_cases p2 : p = 2
        · subst p2
          simp
          omega
        · simp [zdg, p2] at h6
      · by_cases c1 : c = 41
        · subst c1
          simp [zdg] at h6 ⊢
          repeat' split at h6
          all_goals first | omega | (repeat' split; all_goals omega)
        · rw [if_neg c0, if_neg c1]
          refine ⟨ih.1, by omega, fun _ => by omega⟩
/-- where a token begins, or the end -/
def zat (T : Nat → Int) (n i : Nat) : Prop := i ≤ n ∧ (zpP T i = 0 ∨ zpP T i = 5 ∨ (zpP T i = 4 ∧ (i = n ∨ ¬ (48 ≤ T i ∧ T i ≤ 57))))
theorem zdg_ne {c : Int} (h : ¬ zdg c = -5) : (48 ≤ c ∧ c ≤ 57) ∨ (97 ≤ c ∧ c ≤ 102) := by
  unfold zdg at h
  split at h
  · left; assumption
  · split at h
    · right; assumption
    · exact absurd rfl h
theorem zdg_dig {c : Int} (h : 48 ≤ c ∧ c ≤ 57) : zdg c = c - 48 := if_pos h
theorem zdg_none {c : Int} (h : ¬ (48 ≤ c ∧ c ≤ 57)) (h2 : ¬ (97 ≤ c ∧ c ≤ 102)) : zdg c = -5 := by
  unfold zdg
  rw [if_neg h, if_neg h2]
theorem zdd_same {c d : Int} (h : ¬ c = 40) (h2 : ¬ c = 41) : zdd c d = d := by
  unfold zdd
  rw [if_neg h, if_neg h2]
theorem zpl_0 (c d : Int) : zpl 0 c d = zpi c := rfl
theorem zpl_1 (c d : Int) : zpl 1 c d = zpd c := rfl
theorem zpl_2 (c d : Int) : zpl 2 c d = if c = 40 then 0 else zpd c := rfl
theorem zpl_3 (c d : Int) : zpl 3 c d = if 49 ≤ c ∧ c ≤ 57 then 4 else 6 := rfl
theorem zpl_4 (c d : Int) : zpl 4 c d = if 48 ≤ c ∧ c ≤ 57 then 5 else zpb c d := rfl
theorem zpl_5 (c d : Int) : zpl 5 c d = zpb c d := rfl
theorem zpd_ok {c : Int} (h : ¬ zpd c = 6) : ¬ zdg c = -5 ∧ zpd c = 5 := by
  unfold zpd at h ⊢
  split at h
  · exact absurd rfl h
  · rename_i q
    exact ⟨q, if_neg q⟩
theorem zpb_ok {c d : Int} (h : ¬ zpb c d = 6) : (c = 44 ∧ zpb c d = 0) ∨ (c = 41 ∧ 0 < d ∧ zpb c d = 5) := by
  unfold zpb at h ⊢
  by_cases h1 : c = 44
  · rw [if_pos h1]; exact Or.inl ⟨h1, rfl⟩
  · rw [if_neg h1] at h ⊢
    by_cases h2 : c = 41 ∧ 0 < d
    · rw [if_pos h2]; exact Or.inr ⟨h2.1, h2.2, rfl⟩
    · rw [if_neg h2] at h; exact absurd rfl h
theorem ztok {T : Nat → Int} {n i : Nat} (hf : zfree T n) (hi : i < n) (ha : zat T n i) :
    (T i = 44 ∧ zat T n (i + 1) ∧ zpD T (i + 1) = zpD T i ∧ zpP T (i + 1) = 0 ∧ ¬ zpP T i = 0) ∨
    (T i = 41 ∧ 0 < zpD T i ∧ zat T n (i + 1) ∧ zpD T (i + 1) = zpD T i - 1 ∧ zpP T (i + 1) = 5 ∧ ¬ zpP T i = 0) ∨
    (zpP T i = 0 ∧ (50 ≤ T i ∧ T i ≤ 57) ∧ i + 1 < n ∧ T (i + 1) = 40 ∧ zat T n (i + 2) ∧ zpP T (i + 2) = 0 ∧ zpD T (i + 2) = zpD T i + 1) ∨
    (zpP T i = 0 ∧ (T i = 46 ∨ T i = 95) ∧ i + 1 < n ∧ (49 ≤ T (i + 1) ∧ T (i + 1) ≤ 57) ∧
      ((i + 2 < n ∧ (48 ≤ T (i + 2) ∧ T (i + 2) ≤ 57) ∧ zat T n (i + 3) ∧ zpP T (i + 3) = 5 ∧ zpD T (i + 3) = zpD T i) ∨ ((i + 2 = n ∨ zdg (T (i + 2)) = -5) ∧ zat T n (i + 2) ∧ zpP T (i + 2) = 4 ∧ zpD T (i + 2) = zpD T i))) ∨
    (zpP T i = 0 ∧ ¬ zdg (T i) = -5 ∧ i + 1 < n ∧ ¬ zdg (T (i + 1)) = -5 ∧ zat T n (i + 2) ∧ zpP T (i + 2) = 5 ∧ zpD T (i + 2) = zpD T i) := by
  have h1 := hf.1 i hi
  rw [zpP_s] at h1
  obtain ⟨hin, ha⟩ := ha
  rcases ha with p0 | p5 | ⟨p4, h4⟩
  · -- an item begins
    rw [p0, zpl_0] at h1
    have hP1 : zpP T (i + 1) = zpi (T i) := by rw [zpP_s, p0, zpl_0]
    by_cases cs : T i = 46 ∨ T i = 95
    · have e1 : zpi (T i) = 3 := if_pos cs
      rw [e1] at hP1
      have hn1 : i + 1 < n := by
        apply Nat.lt_of_le_of_ne (by omega)
        intro q
        have := hf.2.1
        rw [← q, hP1] at this
        omega
      have hD1 : zpD T (i + 1) = zpD T i := by rw [zpD_s, zdd_same (by omega) (by omega)]
      have h2 := hf.1 (i + 1) hn1
      rw [zpP_s, hP1, zpl_3] at h2
      have c1 : 49 ≤ T (i + 1) ∧ T (i + 1) ≤ 57 := Classical.byContradiction fun q => h2 (if_neg q)
      have hP2 : zpP T (i + 2) = 4 := by rw [show i + 2 = i + 1 + 1 by omega, zpP_s, hP1, zpl_3, if_pos c1]
      have hD2 : zpD T (i + 2) = zpD T i := by rw [show i + 2 = i + 1 + 1 by omega, zpD_s, zdd_same (by omega) (by omega), hD1]
      right; right; right; left
      refine ⟨p0, cs, hn1, c1, ?_⟩
      by_cases hn2 : i + 2 < n
      · have h3 := hf.1 (i + 2) hn2
        by_cases c2 : 48 ≤ T (i + 2) ∧ T (i + 2) ≤ 57
        · left
          have hP3 : zpP T (i + 3) = 5 := by rw [show i + 3 = i + 2 + 1 by omega, zpP_s, hP2, zpl_4, if_pos c2]
          exact ⟨hn2, c2, ⟨by omega, Or.inr (Or.inl hP3)⟩, hP3, by rw [show i + 3 = i + 2 + 1 by omega, zpD_s, zdd_same (by omega) (by omega), hD2]⟩
        · right
          rw [zpP_s, hP2, zpl_4, if_neg c2] at h3
          refine ⟨Or.inr ?_, ⟨by omega, Or.inr (Or.inr ⟨hP2, Or.inr c2⟩)⟩, hP2, hD2⟩
          rcases zpb_ok h3 with q | q
          · exact zdg_none c2 (by omega)
          · exact zdg_none c2 (by omega)
      · right
        exact ⟨Or.inl (by omega), ⟨by omega, Or.inr (Or.inr ⟨hP2, Or.inl (by omega)⟩)⟩, hP2, hD2⟩
    · have e1 : zpi (T i) = if 50 ≤ T i ∧ T i ≤ 57 then 2 else if zdg (T i) = -5 then 6 else 1 := if_neg cs
      have hex : ¬ zdg (T i) = -5 := by
        intro q
        have hq : ¬ (50 ≤ T i ∧ T i ≤ 57) := by
          intro z
          rw [zdg_dig (by omega)] at q
          omega
        rw [e1, if_neg hq, if_pos q] at h1
        exact h1 rfl
      have hx := zdg_ne hex
      have hD1 : zpD T (i + 1) = zpD T i := by rw [zpD_s, zdd_same (by omega) (by omega)]
      have h12 : zpP T (i + 1) = 2 ∧ (50 ≤ T i ∧ T i ≤ 57) ∨ zpP T (i + 1) = 1 := by
        rw [hP1, e1]
        by_cases q : 50 ≤ T i ∧ T i ≤ 57
        · rw [if_pos q]; exact Or.inl ⟨rfl, q⟩
        · rw [if_neg q, if_neg hex]; exact Or.inr rfl
      have hn1 : i + 1 < n := by
        apply Nat.lt_of_le_of_ne (by omega)
        intro q
        have := hf.2.1
        rw [← q] at this
        omega
      have h2 := hf.1 (i + 1) hn1
      rw [zpP_s] at h2
      have word : ¬ zpd (T (i + 1)) = 6 → zpl (zpP T (i + 1)) (T (i + 1)) (zpD T (i + 1)) = zpd (T (i + 1)) → zpP T i = 0 ∧ ¬ zdg (T i) = -5 ∧ i + 1 < n ∧ ¬ zdg (T (i + 1)) = -5 ∧ zat T n (i + 2) ∧ zpP T (i + 2) = 5 ∧ zpD T (i + 2) = zpD T i := by
        intro w1 w2
        obtain ⟨g1, g2⟩ := zpd_ok w1
        have gx := zdg_ne g1
        have hP2 : zpP T (i + 2) = 5 := by rw [show i + 2 = i + 1 + 1 by omega, zpP_s, w2, g2]
        exact ⟨p0, hex, hn1, g1, ⟨by omega, Or.inr (Or.inl hP2)⟩, hP2, by rw [show i + 2 = i + 1 + 1 by omega, zpD_s, zdd_same (by omega) (by omega), hD1]⟩
      rcases h12 with ⟨q, q2⟩ | q
      · by_cases c1 : T (i + 1) = 40
        · right; right; left
          have hP2 : zpP T (i + 2) = 0 := by rw [show i + 2 = i + 1 + 1 by omega, zpP_s, q, zpl_2, if_pos c1]
          exact ⟨p0, q2, hn1, c1, ⟨by omega, Or.inl hP2⟩, hP2, by rw [show i + 2 = i + 1 + 1 by omega, zpD_s, hD1]; unfold zdd; rw [if_pos c1]⟩
        · right; right; right; right
          have e2 : zpl (zpP T (i + 1)) (T (i + 1)) (zpD T (i + 1)) = zpd (T (i + 1)) := by rw [q, zpl_2, if_neg c1]
          exact word (by rw [← e2]; exact h2) e2
      · right; right; right; right
        have e2 : zpl (zpP T (i + 1)) (T (i + 1)) (zpD T (i + 1)) = zpd (T (i + 1)) := by rw [q, zpl_1]
        exact word (by rw [← e2]; exact h2) e2
  · rw [p5, zpl_5] at h1
    have hP1 : zpP T (i + 1) = zpb (T i) (zpD T i) := by rw [zpP_s, p5, zpl_5]
    rcases zpb_ok h1 with ⟨q1, q2⟩ | ⟨q1, q2, q3⟩
    · left
      exact ⟨q1, ⟨by omega, Or.inl (by rw [hP1, q2])⟩, by rw [zpD_s, zdd_same (by omega) (by omega)], by rw [hP1, q2], by omega⟩
    · right; left
      exact ⟨q1, q2, ⟨by omega, Or.inr (Or.inl (by rw [hP1, q3]))⟩, by rw [zpD_s]; unfold zdd; rw [if_neg (by omega), if_pos q1], by rw [hP1, q3], by omega⟩
  · have h4' : ¬ (48 ≤ T i ∧ T i ≤ 57) := by
      rcases h4 with q | q
      · omega
      · exact q
    rw [p4, zpl_4, if_neg h4'] at h1
    have hP1 : zpP T (i + 1) = zpb (T i) (zpD T i) := by rw [zpP_s, p4, zpl_4, if_neg h4']
    rcases zpb_ok h1 with ⟨q1, q2⟩ | ⟨q1, q2, q3⟩
    · left
      exact ⟨q1, ⟨by omega, Or.inl (by rw [hP1, q2])⟩, by rw [zpD_s, zdd_same (by omega) (by omega)], by rw [hP1, q2], by omega⟩
    · right; left
      exact ⟨q1, q2, ⟨by omega, Or.inr (Or.inl (by rw [hP1, q3]))⟩, by rw [zpD_s]; unfold zdd; rw [if_neg (by omega), if_pos q1], by rw [hP1, q3], by omega⟩
/-! the sending: levels, words, end, count -/
abbrev ZT : Type := (Nat → Bool) × (Nat → Int) × Nat × Nat
def zlevel (c : Int) : Int := if c = 46 then 1 else 0
/-- the number behind a sign -/
def znum (T : Nat → Int) (n i : Nat) : Int := if zdg (zch T n ((i : Int) + 2)) = -5 then zdg (zch T n ((i : Int) + 1)) else zdg (zch T n ((i : Int) + 1)) * 10 + zdg (zch T n ((i : Int) + 2))
def zwid (T : Nat → Int) (n i : Nat) : Nat := if (T i = 46 ∨ T i = 95) ∧ ¬ zdg (zch T n ((i : Int) + 2)) = -5 then 3 else 2
/-- an item: the state behind it, if there is room -/
def zitm (S : Nat → Int) (T : Nat → Int) (n i : Nat) (s : ZT) : Option ZT :=
  if T i = 46 ∨ T i = 95 then
    (if znum T n i ≤ 1500 - (s.2.2.1 : Int) then some (zsb s.1 s.2.2.1 (zlevel (T i)) (znum T n i).toNat, s.2.1, s.2.2.1 + (znum T n i).toNat, s.2.2.2) else none)
  else
    (if ztk S ≤ 1500 - (s.2.2.1 : Int) then some (zaw s.1 S s.2.2.1 (zdg (T i) * 16 + zdg (zch T n ((i : Int) + 1))).toNat (zbn S).toNat, zU s.2.1 s.2.2.2 (zdg (T i) * 16 + zdg (zch T n ((i : Int) + 1))), s.2.2.1 + (ztk S).toNat, s.2.2.2 + 1) else none)
def zex (S : Nat → Int) (T : Nat → Int) (n : Nat) : Nat → Nat → Nat → (Nat → Int) → (Nat → Int) → ZT → Option (Option ZT)
  | 0, _, _, _, _, _ => none
  | N + 1, i, d, F, R, s => if n ≤ i then some (some s) else if T i = 44 then zex S T n N (i + 1) d F R s
    else if T i = 41 then (if 0 < R (d - 1) - 1 then zex S T n N (F (d - 1)).toNat d F (zU R (d - 1) (R (d - 1) - 1)) s else zex S T n N (i + 1) (d - 1) F (zU R (d - 1) (R (d - 1) - 1)) s)
    else if zch T n ((i : Int) + 1) = 40 then zex S T n N (i + 2) (d + 1) (zU F d ((i + 2 : Nat) : Int)) (zU R d (zdg (T i))) s
    else (match zitm S T n i s with
      | none => some none
      | some s' => zex S T n N (i + zwid T n i) d F R s')
theorem zex_mono (S : Nat → Int) (T : Nat → Int) (n : Nat) : ∀ (N i d : Nat) (F R : Nat → Int) (s : ZT) (r : Option ZT), zex S T n N i d F R s = some r → zex S T n (N + 1) i d F R s = some r
  | 0, i, d, F, R, s, r, h => by cases h
  | N + 1, i, d, F, R, s, r, h => by
    unfold zex at h ⊢
    split
    · rename_i q; rw [if_pos q] at h; exact h
    · rename_i q
      rw [if_neg q] at h
      split
      · rename_i q2; rw [if_pos q2] at h; exact zex_mono S T n N _ _ _ _ _ _ h
      · rename_i q2
        rw [if_neg q2] at h
        split
        · rename_i q3
          rw [if_pos q3] at h
          split
          · rename_i q4; rw [if_pos q4] at h; exact zex_mono S T n N _ _ _ _ _ _ h
          · rename_i q4; rw [if_neg q4] at h; exact zex_mono S T n N _ _ _ _ _ _ h
        · rename_i q3
          rw [if_neg q3] at h
          split
          · rename_i q4; rw [if_pos q4] at h; exact zex_mono S T n N _ _ _ _ _ _ h
          · rename_i q4
            rw [if_neg q4] at h
            cases hm : zitm S T n i s with
            | none => rw [hm] at h; exact h
            | some s' => rw [hm] at h; exact zex_mono S T n N _ _ _ _ _ _ h
theorem zex_more {S : Nat → Int} {T : Nat → Int} {n N i d : Nat} {F R : Nat → Int} {s : ZT} {r : Option ZT} (h : zex S T n N i d F R s = some r) : ∀ m, zex S T n (N + m) i d F R s = some r
  | 0 => h
  | m + 1 => zex_mono S T n (N + m) _ _ _ _ _ _ (zex_more h m)
/-- the sending comes to r -/
def zxr (S : Nat → Int) (T : Nat → Int) (n i d : Nat) (F R : Nat → Int) (s : ZT) (r : Option ZT) : Prop := ∃ N, zex S T n N i d F R s = some r
theorem zxr_one {S : Nat → Int} {T : Nat → Int} {n i d : Nat} {F R : Nat → Int} {s : ZT} {r r' : Option ZT} (h : zxr S T n i d F R s r) (h' : zxr S T n i d F R s r') : r = r' := by
  obtain ⟨N, hN⟩ := h
  obtain ⟨M, hM⟩ := h'
  have a := zex_more hN M
  have b := zex_more hM N
  rw [Nat.add_comm M N, a] at b
  exact Option.some.inj b
