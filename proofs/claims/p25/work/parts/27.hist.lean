/-! THE HISTORY, and what is done to all of it -/
/-- where a State lies: its own cell, levels, words, settings -/
abbrev ZV : Type := Nat × Nat × Nat × Nat
/-- what it holds: levels, words, settings, end, count -/
abbrev ZS : Type := (Nat → Bool) × (Nat → Int) × (Nat → Int) × Nat × Nat
def zIs (s : ZS) : Prop := zI s.1 s.2.1 s.2.2.1 s.2.2.2.1 s.2.2.2.2
def zsa (h0 h1 h2 h3 : Nat) : Nat → Option Nat := fun i => match i with
  | 0 => some h0
  | 1 => some h1
  | 2 => some h2
  | 3 => some h3
  | _ => none
def zhl (z : Nat) (s0 s1 s2 s3 : ZS) : List ZS := [s0, s1, s2, s3].take z
def zpush (l : List ZS) (s : ZS) : List ZS := (if l.length = 4 then l.drop 1 else l) ++ [s]
/-- what stands in all: the state, the history, whether there is a snapshot, it, the text -/
abbrev ZA : Type := ZS × List ZS × Nat × ZS × (Nat → Int) × Nat
def zrec (a : ZA) (s : ZS) : ZA := (s, zpush a.2.1 a.1, a.2.2)
def zSw (s : ZS) (w : Nat) : ZS := (zaw s.1 s.2.2.1 s.2.2.2.1 w (zbn s.2.2.1).toNat, zU s.2.1 s.2.2.2.2 (w : Int), s.2.2.1, s.2.2.2.1 + (ztk s.2.2.1).toNat, s.2.2.2.2 + 1)
def zSs (s : ZS) (v : Int) (m : Nat) : ZS := (zsb s.1 s.2.2.2.1 v m, s.2.1, s.2.2.1, s.2.2.2.1 + m, s.2.2.2.2)
def zSf (s : ZS) (f m : Nat) : ZS := (zfl s.1 f (f + m), s.2.1, s.2.2.1, s.2.2.2.1, s.2.2.2.2)
def zSc (s : ZS) : ZS := (fun _ => true, s.2.1, s.2.2.1, 0, 0)
def zSe (s : ZS) (i : Nat) (z : Int) : ZS := (s.1, s.2.1, zU s.2.2.1 i z, s.2.2.2.1, s.2.2.2.2)
def zSt (s : ZS) (t : ZT) : ZS := (t.1, t.2.1, s.2.2.1, t.2.2.1, t.2.2.2)
def zTs (s : ZS) : ZT := (s.1, s.2.1, s.2.2.2.1, s.2.2.2.2)
def xSend (a : ZA) (z : Int) : Int × ZA := if z < 0 ∨ 255 < z then (-2, a) else if 1500 - (a.1.2.2.2.1 : Int) < ztk a.1.2.2.1 then (-3, a) else (((zSw a.1 z.toNat).2.2.2.1 : Int), zrec a (zSw a.1 z.toNat))
def xStr (a : ZA) (v z : Int) : Int × ZA := if z < 1 ∨ 500 < z then (-2, a) else if 1500 - (a.1.2.2.2.1 : Int) < z then (-3, a) else (((zSs a.1 v z.toNat).2.2.2.1 : Int), zrec a (zSs a.1 v z.toNat))
def xDis (a : ZA) (p z : Int) : Int × ZA := if z < 1 ∨ 40 < z ∨ p < 0 ∨ (a.1.2.2.2.1 : Int) - z < p then (-2, a) else (zct (fun j => zB (!a.1.1 j)) p.toNat z.toNat, zrec a (zSf a.1 p.toNat z.toNat))
def xClr (a : ZA) : Int × ZA := ((a.1.2.2.2.1 : Int), zrec a (zSc a.1))
def xSet (a : ZA) (i z : Int) : Int × ZA := if i < 0 ∨ 4 < i then (-1, a) else if z < zF1 i.toNat ∨ zF2 i.toNat < z then (-2, a) else if z = a.1.2.2.1 i.toNat then (-5, a) else (a.1.2.2.1 i.toNat, zrec a (zSe a.1 i.toNat z))
def xLrn (a : ZA) : Int × ZA := if zlearn a.1.1 a.1.2.2.2.1 = -5 ∨ zlearn a.1.1 a.1.2.2.2.1 = a.1.2.2.1 1 then (-5, a) else (zlearn a.1.1 a.1.2.2.2.1, zrec a (zSe a.1 1 (zlearn a.1.1 a.1.2.2.2.1)))
def xTyp (a : ZA) (c : Int) : Int × ZA := if a.2.2.2.2.2 < 60 then (((a.2.2.2.2.2 + 1 : Nat) : Int), (a.1, a.2.1, a.2.2.1, a.2.2.2.1, zU a.2.2.2.2.1 a.2.2.2.2.2 c, a.2.2.2.2.2 + 1)) else (-3, a)
def xCtx (a : ZA) : Int × ZA := ((a.2.2.2.2.2 : Int), (a.1, a.2.1, a.2.2.1, a.2.2.2.1, a.2.2.2.2.1, 0))
def xPer (a : ZA) (r : Option ZT) : Int × ZA := if zfault a.2.2.2.2.1 a.2.2.2.2.2 = -5 then (match r with
  | none => (-3, a)
  | some t => ((t.2.2.1 : Int), zrec a (zSt a.1 t))) else (-100 - zfault a.2.2.2.2.1 a.2.2.2.2.2, a)
def xUnd (a : ZA) : Int × ZA := match a.2.1.getLast? with
  | none => (-5, a)
  | some s => (((a.2.1.length - 1 : Nat) : Int), (s, a.2.1.dropLast, a.2.2))
def xKee (a : ZA) : Int × ZA := ((a.1.2.2.2.1 : Int), (a.1, a.2.1, 1, a.1, a.2.2.2.2))
def xRes (a : ZA) : Int × ZA := if a.2.2.1 = 0 then (-5, a) else ((a.2.2.2.1.2.2.2.1 : Int), zrec a a.2.2.2.1)
/-! what is only asked -/
def zitems (s : ZS) (r : Nat) : List ZIt := zall s.1 s.2.2.1 s.2.2.2.1 r
def zwl (s : ZS) (r : Nat) : Prop := zwell (zitems s r) s.2.1 s.2.2.2.2
noncomputable def zwlB (s : ZS) (r : Nat) : Int := by
  classical
  exact if zwl s r then 1 else 0
theorem zwlB_t {s : ZS} {r : Nat} (h : zwl s r) : zwlB s r = 1 := by
  unfold zwlB
  exact if_pos h
theorem zwlB_f {s : ZS} {r : Nat} (h : ¬ zwl s r) : zwlB s r = 0 := by
  unfold zwlB
  exact if_neg h
def yLev (s : ZS) (z : Int) : Int := if z < 0 then -2 else zlv s.1 z
def yFal (s : ZS) (z : Int) : Int := if z < 0 then -2 else zfr s.1 s.2.2.2.1 z.toNat
def ySnt (s : ZS) (z : Int) : Int := if z < 0 then -2 else zwr s.2.1 s.2.2.2.2 z
/-- the receiver's length -/
def zrl (s : ZS) : Nat := (s.2.2.1 1).toNat
def yRcv (s : ZS) (z w : Int) : Int := if z < 0 ∨ w < 0 ∨ 4 < w then -2 else zno (zitems s (zrl s)) z w.toNat
def zkn (l : List ZIt) (k : Int) : Int := ((zcn (fun it => decide (it.1 = k)) l l.length : Nat) : Int)
noncomputable def yTot (a : ZA) (w : Int) : Int :=
  if w < 0 ∨ 19 < w then -2 else if w < 5 then a.1.2.2.1 w.toNat else if w = 5 then (a.1.2.2.2.1 : Int) else if w = 6 then (a.1.2.2.2.2 : Int)
  else if w = 7 then ((zitems a.1 (zrl a.1)).length : Int) else if w = 12 then (zfls a.1.1 a.1.2.2.1 a.1.2.2.2.1 (zrl a.1) : Int)
  else if w = 13 then (zds (zitems a.1 (zrl a.1)) (zitems a.1 (zrl a.1)).length : Int) else if w = 14 then zwlB a.1 (zrl a.1)
  else if w = 15 then zcf a.1.1 a.1.2.2.2.1 else if w = 16 then zcl a.1.1 a.1.2.2.2.1 else if w = 17 then zlearn a.1.1 a.1.2.2.2.1
  else if w = 18 then (a.2.1.length : Int) else if w = 19 then (a.2.2.2.2.2 : Int) else zkn (zitems a.1 (zrl a.1)) (w - 8)
noncomputable def yIfl (s : ZS) (r w : Int) : Int := if r < 4 ∨ 40 < r ∨ w < 0 ∨ 3 < w then -2 else if w = 0 then ((zitems s r.toNat).length : Int) else if w = 1 then zkn (zitems s r.toNat) 0 else if w = 2 then (zds (zitems s r.toNat) (zitems s r.toNat).length : Int) else zwlB s r.toNat
/-- the lengths 4 to 4 + n - 1, tried one behind the other -/
noncomputable def yGl (s : ZS) (g : Int) : Nat → Int
  | 0 => -5
  | n + 1 => if (¬ g = 0 ∨ yGl s g n = -5) ∧ zwlB s (4 + n) = 1 then ((4 + n : Nat) : Int) else yGl s g n
/-- the first place from i on, n places, at which a disturbance does harm -/
noncomputable def yHm (s : ZS) (m : Nat) : Nat → Nat → Int
  | 0, _ => -5
  | n + 1, i => if zwlB (zSf s i m) (zrl s) = 1 then yHm s m n (i + 1) else (i : Int)
noncomputable def yHrm (s : ZS) (z : Int) : Int := if z < 1 ∨ 40 < z then -2 else yHm s z.toNat (s.2.2.2.1 + 1 - z.toNat) 0
def yIfs (s : ZS) (z : Int) : Int := if z < 0 ∨ 255 < z then -2 else if 1500 - (s.2.2.2.1 : Int) < ztk s.2.2.1 then -3 else ((zcn (zgood z) (zitems (zSw s z.toNat) (zrl s)) (zitems (zSw s z.toNat) (zrl s)).length : Nat) : Int)
theorem zNz {n : Nat} (h : n ≤ 1) : narrow .boolean (.int (iI (n : Int))) = .int (iI (n : Int)) := by
  rcases (show n = 0 ∨ n = 1 by omega) with q | q <;> (subst q; decide +kernel)
