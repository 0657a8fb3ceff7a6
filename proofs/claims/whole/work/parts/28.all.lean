/-! ALL THAT AN OBJECT HOLDS -/
def zF7 {α : Type} (a0 a1 a2 a3 a4 a5 a6 : α) : Nat → α := fun i => match i with
  | 0 => a0
  | 1 => a1
  | 2 => a2
  | 3 => a3
  | 4 => a4
  | 5 => a5
  | _ => a6
def zF6 (a0 a1 a2 a3 a4 a5 : Nat) : Nat → Nat := fun i => match i with
  | 0 => a0
  | 1 => a1
  | 2 => a2
  | 3 => a3
  | 4 => a4
  | _ => a5
/-- U: what the States hold (0 the state, 1 what is tried, 2 to 5 the history's, 6 the snapshot); m: count, false starts, doubtful bits, length of the text, size, whether a snapshot; T the text -/
def zab (U : Nat → ZS) (m : Nat → Nat) (T : Nat → Int) : ZA := (U 0, zhl (m 4) (U 2) (U 3) (U 4) (U 5), m 5, U 6, T, m 3)
def zAI (a : ZA) : Prop := zIs a.1 ∧ (∀ s ∈ a.2.1, zIs s) ∧ a.2.2.1 ≤ 1 ∧ (a.2.2.1 = 1 → zIs a.2.2.2.1) ∧ (∀ i, 0 ≤ a.2.2.2.2.1 i ∧ a.2.2.2.2.1 i < 65536) ∧ a.2.2.2.2.2 ≤ 60
def zmok (m : Nat → Nat) : Prop := m 4 ≤ 4 ∧ m 5 ≤ 1
theorem zhl_len {z : Nat} {s0 s1 s2 s3 : ZS} (h : z ≤ 4) : (zhl z s0 s1 s2 s3).length = z := by
  unfold zhl
  rw [List.length_take]
  show min z 4 = z
  omega
theorem xUnd_n {a : ZA} (h : a.2.1 = []) : xUnd a = (-5, a) := by
  unfold xUnd
  rw [h]
  rfl
theorem xUnd_s {a : ZA} {l : List ZS} {s : ZS} (h : a.2.1 = l ++ [s]) : xUnd a = ((l.length : Int), (s, l, a.2.2)) := by
  unfold xUnd
  rw [h]
  simp
theorem zF1_b (j : Nat) : -10 ≤ zF1 j ∧ zF1 j ≤ 700 := by
  unfold zF1
  match j with
  | 0 => decide
  | 1 => decide
  | 2 => decide
  | 3 => decide
  | 4 => decide
  | n + 5 => simp
theorem zF2_b (j : Nat) : -10 ≤ zF2 j ∧ zF2 j ≤ 700 := by
  unfold zF2
  match j with
  | 0 => decide
  | 1 => decide
  | 2 => decide
  | 3 => decide
  | 4 => decide
  | n + 5 => simp
theorem zIs_set {b : Nat → Bool} {W S : Nat → Int} {e k : Nat} (h : zI b W S e k) (j : Nat) (hj : j < 5) : -10 ≤ S j ∧ S j ≤ 700 := by
  obtain ⟨-, -, -, h0, h1, h2, h3, h4, -⟩ := h
  rcases (show j = 0 ∨ j = 1 ∨ j = 2 ∨ j = 3 ∨ j = 4 by omega) with q | q | q | q | q <;> (subst q; omega)
