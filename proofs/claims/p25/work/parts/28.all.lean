/-! ALL THAT AN OBJECT HOLDS -/
def zF7 {α : Type} (a0 a1 a2 a3 a4 a5 a6 : α) : Nat → α := fun i => match i with
  | 0 => a0
  | 1 => a1
  | 2 => a2
  | 3 => a3
  | 4 => a4
  | 5 => a5
  | _ => a6
def zF6 (a0 a1 a2 a3 a4 a5 : Nat) : Nat → Nat := fun i => match i with
  | 0 => a0
  | 1 => a1
  | 2 => a2
  | 3 => a3
  | 4 => a4
  | _ => a5
/-- U: what the States hold (0 the state, 1 what is tried, 2 to 5 the history's, 6 the snapshot); m: count, false starts, doubtful bits, length of the text, size, whether a snapshot; T the text -/
def zab (U : Nat → ZS) (m : Nat → Nat) (T : Nat → Int) : ZA := (U 0, zhl (m 4) (U 2) (U 3) (U 4) (U 5), m 5, U 6, T, m 3)
def zAI (a : ZA) : Prop := zIs a.1 ∧ (∀ s ∈ a.2.1, zIs s) ∧ a.2.2.1 ≤ 1 ∧ (a.2.2.1 = 1 → zIs a.2.2.2.1) ∧ (∀ i, 0 ≤ a.2.2.2.2.1 i ∧ a.2.2.2.2.1 i < 65536) ∧ a.2.2.2.2.2 ≤ 60
def zmok (m : Nat → Nat) : Prop := m 4 ≤ 4 ∧ m 5 ≤ 1
theorem zhl_len {z : Nat} {s0 s1 s2 s3 : ZS} (h : z ≤ 4) : (zhl z s0 s1 s2 s3).length = z := by
  unfold zhl
  rw [List.length_take]
  show min z 4 = z
  omega
theorem xUnd_n {a : ZA} (h : a.2.1 = []) : xUnd a = (-5, a) := by
  unfold xUnd
  rw [h]
  rfl
theorem xUnd_s {a : ZA} {l : List ZS} {s : ZS} (h : a.2.1 = l ++ [s]) : xUnd a = ((l.length : Int), (s, l, a.2.2)) := by
  unfold xUnd
  rw [h]
  simp
theorem zF1_b (j : Nat) : -10 ≤ zF1 j ∧ zF1 j ≤ 700 := by
  unfold zF1
  match j with
  | 0 => decide
  | 1 => decide
  | 2 => decide
  | 3 => decide
  | 4 => decide
  | n + 5 => simp
theorem zF2_b (j : Nat) : -10 ≤ zF2 j ∧ zF2 j ≤ 700 := by
  unfold zF2
  match j with
  | 0 => decide
  | 1 => decide
  | 2 => decide
  | 3 => decide
  | 4 => decide
  | n + 5 => simp
theorem zIs_set {b : Nat → Bool} {W S : Nat → Int} {e k : Nat} (h : zI b W S e k) (j : Nat) (hj : j < 5) : -10 ≤ S j ∧ S j ≤ 700 := by
  obtain ⟨-, -, -, h0, h1, h2, h3, h4, -⟩ := h
  rcases (show j = 0 ∨ j = 1 ∨ j = 2 ∨ j = 3 ∨ j = 4 by omega) with q | q | q | q | q <;> (subst q; omega)
/-- the sending of the text's program comes to r, whatever stood in the rows -/
def zxp (S : Nat → Int) (T : Nat → Int) (n : Nat) (s : ZT) (r : Option ZT) : Prop := ∃ F R : Nat → Int, zxr S T n 0 0 F R s r
theorem zfl_2 (b : Nat → Bool) (f t : Nat) : zfl (zfl b f t) f t = b := by
  funext j
  unfold zfl
  split
  · simp
  · rfl
theorem yHm_s {s : ZS} {m n i : Nat} (h : zwlB (zSf s i m) (zrl s) = 1) : yHm s m (n + 1) i = yHm s m n (i + 1) := by
  conv => lhs; unfold yHm
  rw [if_pos h]
theorem yHm_f {s : ZS} {m n i : Nat} (h : ¬ zwlB (zSf s i m) (zrl s) = 1) : yHm s m (n + 1) i = (i : Int) := by
  unfold yHm
  rw [if_neg h]
theorem zwlB_b (s : ZS) (r : Nat) : zwlB s r = 0 ∨ zwlB s r = 1 := by
  by_cases h : zwl s r
  · exact Or.inr (zwlB_t h)
  · exact Or.inl (zwlB_f h)
theorem yGl_b (s : ZS) (g : Int) : ∀ n, n ≤ 37 → -5 ≤ yGl s g n ∧ yGl s g n ≤ 40
  | 0, _ => by
    show -5 ≤ (-5 : Int) ∧ (-5 : Int) ≤ 40
    omega
  | n + 1, h => by
    have ih := yGl_b s g n (by omega)
    unfold yGl
    split
    · omega
    · exact ih
theorem yGl_y {s : ZS} {g : Int} {n : Nat} (h : ¬ g = 0 ∨ yGl s g n = -5) (h2 : zwlB s (4 + n) = 1) : yGl s g (n + 1) = ((4 + n : Nat) : Int) := by
  conv => lhs; unfold yGl
  rw [if_pos ⟨h, h2⟩]
theorem yGl_n {s : ZS} {g : Int} {n : Nat} (h : ¬ ((¬ g = 0 ∨ yGl s g n = -5) ∧ zwlB s (4 + n) = 1)) : yGl s g (n + 1) = yGl s g n := by
  conv => lhs; unfold yGl
  rw [if_neg h]
