/-! THE WORLD JUDGEMENT: fields, rows, calls, ends -/
/-- what the tables say of a kind of object -/
def zCl (ci : Nat) (Cn : String) (T : u_T) (N : Nat) : Prop := vwCl[ci]? = some (Cn, T, N) ∧ ∃ ty0 : Nat → FieldType, (∀ k, k < N → parseFieldDescriptor (T k).2.2.1 = some (ty0 k)) ∧ ∀ a, a < N → ∀ b, b < N → a ≠ b → (T a).2.1 ≠ (T b).2.1
theorem zCl0 : zCl 0 RX0 TX0 4 := ⟨rfl, tyX0, tyX0_ok, nmX0⟩
theorem zCl1 : zCl 1 RX1 TX1 4 := ⟨rfl, tyX1, tyX1_ok, nmX1⟩
theorem zCl2 : zCl 2 RX2 TX2 5 := ⟨rfl, tyX2, tyX2_ok, nmX2⟩
theorem zCl3 : zCl 3 RX3 TX3 5 := ⟨rfl, tyX3, tyX3_ok, nmX3⟩
theorem zCl4 : zCl 4 RX4 TX4 5 := ⟨rfl, tyX4, tyX4_ok, nmX4⟩
/-- the words of a field in a method: its kind's layout, and the link -/
def zFF (Ts : List Cond) (own : String) (idx : Nat) (Cn : String) (T : u_T) (N k : Nat) : Prop := (∀ w ∈ u_ws Cn T N, w ∈ Ts) ∧ k < N ∧ Cond.fieldLink own idx (T k).1 (T k).2.1 (T k).2.2.1 ∈ Ts
section ZRules2
variable {l : Launch} {X : ZX} {G : ZG} {Y : ZY} {nL cells slots pc : Nat} {lv lv' : List (Nat × Value)} {st rest : List Value} {ws ws' : va_W} {cc : ByteArray} {own : String} {Ts : List Cond} {rm : Room} {fl : Prop}
theorem z_get (C : ZC X G Y nL cc own Ts rm fl) {idx ci N k a : Nat} {Cn : String} {T : u_T} {fs : List Value} {v : Value} (hd : decode cc pc = .ok (.getfield idx, 3)) (hC : zCl ci Cn T N) (hF : zFF Ts own idx Cn T N k) (q : Nat) (he : ws[q]? = some (a, .inr (ci, fs))) (hv : fs[k]? = some v) (kk : Z l X G Y nL cells slots (pc + 3) lv (v :: st) ws) : Z l X G Y nL cells slots pc lv (.ref a :: st) ws := fun H locs ls hP hD hS h =>
  va_get C.1 C.2.1 C.ts hF.1 C.ow C.ka hP q he hC.1 k hF.2.1 (C.ts _ hF.2.2) (fun _ h9 => h9) hv hd (kk H locs ls hP hD hS h)
theorem z_put (C : ZC X G Y nL cc own Ts rm fl) {idx ci N k a : Nat} {Cn : String} {T : u_T} {fs : List Value} {v : Value} {ty : FieldType} (hd : decode cc pc = .ok (.putfield idx, 3)) (hC : zCl ci Cn T N) (hF : zFF Ts own idx Cn T N k) (q : Nat) (he : ws[q]? = some (a, .inr (ci, fs))) (hfin : (T k).2.2.2 = false) (hp : parseFieldDescriptor (T k).2.2.1 = some ty) (hn : narrow ty v = v) (hfit : fits ty v = true) (hl : k < fs.length) (hw : ws.set q (a, .inr (ci, fs.set k v)) = ws') (kk : Z l X G Y nL cells slots (pc + 3) lv st ws') : Z l X G Y nL cells slots pc lv (v :: .ref a :: st) ws := fun H locs ls hP hD hS h => by
  obtain ⟨hc, ty0, h1, h2⟩ := hC
  exact va_put C.1 C.2.1 C.ts hF.1 ty0 h1 h2 C.ow C.ka hP hD hS q he hc k hF.2.1 (C.ts _ hF.2.2) (fun _ h9 => h9) hfin hp hn hfit hl hd (fun H1 locs1 hP hD hS => kk H1 locs1 ls (hw ▸ hP) (hw ▸ hD) hS h)
theorem z_putF (C : ZC X G Y nL cc own Ts rm fl) {idx ci N k a : Nat} {Cn : String} {T : u_T} {fs : List Value} {v : Value} {ty : FieldType} (hin : X.2.2.2.2.2.2.2.1.name = "<init>") (hd : decode cc pc = .ok (.putfield idx, 3)) (hC : zCl ci Cn T N) (hF : zFF Ts own idx Cn T N k) (q : Nat) (he : ws[q]? = some (a, .inr (ci, fs))) (hfin : (T k).2.2.2 = true) (hdc : (T k).1 = own) (hp : parseFieldDescriptor (T k).2.2.1 = some ty) (hn : narrow ty v = v) (hfit : fits ty v = true) (hl : k < fs.length) (hw : ws.set q (a, .inr (ci, fs.set k v)) = ws') (kk : Z l X G Y nL cells slots (pc + 3) lv st ws') : Z l X G Y nL cells slots pc lv (v :: .ref a :: st) ws := fun H locs ls hP hD hS h => by
  obtain ⟨hc, ty0, h1, h2⟩ := hC
  exact va_putF C.1 C.2.1 C.ts hF.1 ty0 h1 h2 C.ow C.ka hP hD hS q he hc k hF.2.1 (C.ts _ hF.2.2) (fun _ h9 => h9) hfin hin hdc hp hn hfit hl hd (fun H1 locs1 hP hD hS => kk H1 locs1 ls (hw ▸ hP) (hw ▸ hD) hS h)
/-- a row of ints -/
abbrev cI (G : ZG) (a n : Nat) (F : Nat → Int) : Nat × va_E := (a, .inl (G.2.1, n, .inl (fun j => iI (F j))))
/-- a row of longs -/
abbrev cL (G : ZG) (a n : Nat) (F : Nat → Int64) : Nat × va_E := (a, .inl (G.2.2.1, n, .inr (.inl F)))
/-- a row of chars -/
abbrev cC (G : ZG) (a n : Nat) (F : Nat → Int) : Nat × va_E := (a, .inl (G.2.2.2.1, n, .inl (fun j => iI (F j))))
/-- a row of States -/
abbrev cS (G : ZG) (a n : Nat) (F : Nat → Option Nat) : Nat × va_E := (a, .inl (G.2.2.2.2.1, n, .inr (.inr (.inr (.inr F)))))
/-- a row of int rows -/
abbrev cM (G : ZG) (a n : Nat) (F : Nat → Option Nat) : Nat × va_E := (a, .inl (G.2.2.2.2.2, n, .inr (.inr (.inr (.inr F)))))
theorem z_iald (C : ZC X G Y nL cc own Ts rm fl) {a n : Nat} {F : Nat → Int} {z : Int} (hd : decode cc pc = .ok (.iaload, 1)) (q : Nat) (he : ws[q]? = some (cI G a n F)) (j : Nat) (hj : z = (j : Int)) (hlt : j < n) (hn : n ≤ 100000) (kk : Z l X G Y nL cells slots (pc + 1) lv (.int (iI (F j)) :: st) ws) : Z l X G Y nL cells slots pc lv (.int (iI z) :: .ref a :: st) ws := fun H locs ls hP hD hS h =>
  va_iald C.1 C.2.1 C.ka hP q 0 he rfl (iI_in (by omega) (by omega) (by omega)) hd (by rw [iI_clamp (by omega) (by omega), show z.toNat = j by omega]; exact kk H locs ls hP hD hS h)
theorem z_cald (C : ZC X G Y nL cc own Ts rm fl) {a n : Nat} {F : Nat → Int} {z : Int} (hd : decode cc pc = .ok (.caload, 1)) (q : Nat) (he : ws[q]? = some (cC G a n F)) (j : Nat) (hj : z = (j : Int)) (hlt : j < n) (hn : n ≤ 100000) (kk : Z l X G Y nL cells slots (pc + 1) lv (.int (iI (F j)) :: st) ws) : Z l X G Y nL cells slots pc lv (.int (iI z) :: .ref a :: st) ws := fun H locs ls hP hD hS h =>
  va_cald C.1 C.2.1 C.ka hP q 2 he rfl (iI_in (by omega) (by omega) (by omega)) hd (by rw [iI_clamp (by omega) (by omega), show z.toNat = j by omega]; exact kk H locs ls hP hD hS h)
theorem z_lald (C : ZC X G Y nL cc own Ts rm fl) {a n : Nat} {F : Nat → Int64} {z : Int} (hd : decode cc pc = .ok (.laload, 1)) (q : Nat) (he : ws[q]? = some (cL G a n F)) (j : Nat) (hj : z = (j : Int)) (hlt : j < n) (hn : n ≤ 100000) (kk : Z l X G Y nL cells slots (pc + 1) lv (.long (F j) :: st) ws) : Z l X G Y nL cells slots pc lv (.int (iI z) :: .ref a :: st) ws := fun H locs ls hP hD hS h =>
  va_lald C.1 C.2.1 C.ka hP q 1 he rfl (iI_in (by omega) (by omega) (by omega)) hd (by rw [iI_clamp (by omega) (by omega), show z.toNat = j by omega]; exact kk H locs ls hP hD hS h)
theorem z_sald (C : ZC X G Y nL cc own Ts rm fl) {a n : Nat} {F : Nat → Option Nat} {z : Int} (hd : decode cc pc = .ok (.aaload, 1)) (q : Nat) (he : ws[q]? = some (cS G a n F)) (j : Nat) (hj : z = (j : Int)) (hlt : j < n) (hn : n ≤ 100000) {b : Nat} (hb : F j = some b) (kk : Z l X G Y nL cells slots (pc + 1) lv (.ref b :: st) ws) : Z l X G Y nL cells slots pc lv (.int (iI z) :: .ref a :: st) ws := fun H locs ls hP hD hS h =>
  va_aldq C.1 C.2.1 C.ka hP q 3 he rfl (iI_in (by omega) (by omega) (by omega)) hd (by rw [iI_clamp (by omega) (by omega), show z.toNat = j by omega, hb]; exact kk H locs ls hP hD hS h)
theorem z_mald (C : ZC X G Y nL cc own Ts rm fl) {a n : Nat} {F : Nat → Option Nat} {z : Int} (hd : decode cc pc = .ok (.aaload, 1)) (q : Nat) (he : ws[q]? = some (cM G a n F)) (j : Nat) (hj : z = (j : Int)) (hlt : j < n) (hn : n ≤ 100000) {b : Nat} (hb : F j = some b) (kk : Z l X G Y nL cells slots (pc + 1) lv (.ref b :: st) ws) : Z l X G Y nL cells slots pc lv (.int (iI z) :: .ref a :: st) ws := fun H locs ls hP hD hS h => by
  have hin : vp_in (iI z) n := iI_in (by omega) (by omega) (by omega)
  have hlt2 : (iI z).toNatClampNeg < n := Nat.not_le.mp fun q => hin (Or.inr q)
  exact W.aald (v := va_rf (F (iI z).toNatClampNeg)) (ty := .array .int) C.1 C.2.1 (hP q _ he) ((C.ka.2 4 _ rfl).1 n (fun j => va_rf (F j))) rfl (fun q => by cases q) (by show ¬ (iI z < 0 ∨ (arrV _ _ _).slots.size ≤ _); rw [arrV_size]; exact hin) (by show (arrV _ _ _).slots[_]? = _; rw [arrV_read _ _ hlt2]) rfl rfl hd (by rw [iI_clamp (by omega) (by omega), show z.toNat = j by omega, hb]; exact kk H locs ls hP hD hS h)
theorem z_iast (C : ZC X G Y nL cc own Ts rm fl) {a n : Nat} {F : Nat → Int} {z v : Int} (hd : decode cc pc = .ok (.iastore, 1)) (q : Nat) (he : ws[q]? = some (cI G a n F)) (j : Nat) (hj : z = (j : Int)) (hlt : j < n) (hn : n ≤ 100000) (hw : ws.set q (cI G a n (zU F j v)) = ws') (kk : Z l X G Y nL cells slots (pc + 1) lv st ws') : Z l X G Y nL cells slots pc lv (.int (iI v) :: .int (iI z) :: .ref a :: st) ws := fun H locs ls hP hD hS h =>
  va_iast C.1 C.2.1 C.ka hP hD hS q 0 he rfl (iI_in (by omega) (by omega) (by omega)) hd (fun H1 locs1 hP hD hS => by
    rw [iI_clamp (by omega) (by omega), show z.toNat = j by omega, zU_upd] at hP hD
    exact kk H1 locs1 ls (hw ▸ hP) (hw ▸ hD) hS h)
theorem zNarC {v : Int} (h : 0 ≤ v) (h2 : v < 65536) : vp_nar .char (iI v) = iI v := by
  rw [vp_nar_char, iI_nat' h]
  have := (pk_charN (q := v.toNat) (by omega)).1
  have h3 : vp_nar .char (nI v.toNat) = nI v.toNat := by unfold vp_nar; rw [this]
  rw [vp_nar_char] at h3
  exact h3
theorem z_cast (C : ZC X G Y nL cc own Ts rm fl) {a n : Nat} {F : Nat → Int} {z v : Int} (hd : decode cc pc = .ok (.castore, 1)) (q : Nat) (he : ws[q]? = some (cC G a n F)) (j : Nat) (hj : z = (j : Int)) (hlt : j < n) (hn : n ≤ 100000) (hv : 0 ≤ v ∧ v < 65536) (hw : ws.set q (cC G a n (zU F j v)) = ws') (kk : Z l X G Y nL cells slots (pc + 1) lv st ws') : Z l X G Y nL cells slots pc lv (.int (iI v) :: .int (iI z) :: .ref a :: st) ws := fun H locs ls hP hD hS h =>
  va_cast C.1 C.2.1 C.ka hP hD hS q 2 he rfl (iI_in (by omega) (by omega) (by omega)) hd (fun H1 locs1 hP hD hS => by
    rw [iI_clamp (by omega) (by omega), show z.toNat = j by omega, zNarC hv.1 hv.2, zU_upd] at hP hD
    exact kk H1 locs1 ls (hw ▸ hP) (hw ▸ hD) hS h)
theorem z_last (C : ZC X G Y nL cc own Ts rm fl) {a n : Nat} {F : Nat → Int64} {z : Int} {v : Int64} (hd : decode cc pc = .ok (.lastore, 1)) (q : Nat) (he : ws[q]? = some (cL G a n F)) (j : Nat) (hj : z = (j : Int)) (hlt : j < n) (hn : n ≤ 100000) (hw : ws.set q (cL G a n (vp_updL F j v)) = ws') (kk : Z l X G Y nL cells slots (pc + 1) lv st ws') : Z l X G Y nL cells slots pc lv (.long v :: .int (iI z) :: .ref a :: st) ws := fun H locs ls hP hD hS h =>
  va_last C.1 C.2.1 C.ka hP hD hS q 1 he rfl (iI_in (by omega) (by omega) (by omega)) hd (fun H1 locs1 hP hD hS => by
    rw [iI_clamp (by omega) (by omega), show z.toNat = j by omega] at hP hD
    exact kk H1 locs1 ls (hw ▸ hP) (hw ▸ hD) hS h)
theorem z_sast (C : ZC X G Y nL cc own Ts rm fl) {a n b : Nat} {F : Nat → Option Nat} {z : Int} {vs : List Value} (hd : decode cc pc = .ok (.aastore, 1)) (q : Nat) (he : ws[q]? = some (cS G a n F)) (j : Nat) (hj : z = (j : Int)) (hlt : j < n) (hn : n ≤ 100000) (qb : Nat) (hb : ws[qb]? = some (b, .inr (2, vs))) (hw : ws.set q (cS G a n (va_up F j (some b))) = ws') (kk : Z l X G Y nL cells slots (pc + 1) lv st ws') : Z l X G Y nL cells slots pc lv (.ref b :: .int (iI z) :: .ref a :: st) ws := fun H locs ls hP hD hS h =>
  va_astq C.1 C.2.1 C.ka hP hD hS q 3 qb 2 (r := (RX2, TX2, 5)) he rfl hb rfl (iI_in (by omega) (by omega) (by omega)) hd (fun H1 locs1 hP hD hS => by
    rw [iI_clamp (by omega) (by omega), show z.toNat = j by omega] at hP hD
    exact kk H1 locs1 ls (hw ▸ hP) (hw ▸ hD) hS h)
theorem z_alen (C : ZC X G Y nL cc own Ts rm fl) {a : Nat} {cA : ClassId} {x : vp_A} {ty : FieldType} (hd : decode cc pc = .ok (.arraylength, 1)) (q t : Nat) (he : ws[q]? = some (a, .inl (cA, x))) (ht : (zT G)[t]? = some (cA, ty)) (kk : Z l X G Y nL cells slots (pc + 1) lv (.int (iI (x.1 : Int)) :: st) ws) : Z l X G Y nL cells slots pc lv (.ref a :: st) ws := fun H locs ls hP hD hS h =>
  va_alen C.1 C.2.1 C.ka hP q t he ht (iI_nat x.1).symm hd (kk H locs ls hP hD hS h)
/-! ends -/
theorem z_iret (C : ZC X G Y nL cc own Ts rm fl) {K : Option Value → va_W → Prop} (R : ZR X G Y K cells slots (some .int)) {v : Int32} (hd : decode cc pc = .ok (.ireturn, 1)) (hk : K (some (.int v)) ws) : Z l X G Y nL cells slots pc lv [.int v] ws := fun H locs ls hP hD hS h => by
  rw [R.1]
  exact W.iret C.1 C.2.1 R.2.1 (fun t ht hW => ⟨⟨_, _, rfl, hk, by rw [ht]; exact hP, hD⟩, hS.F ht⟩) hS.2.2 hd R.2.2
theorem z_zret (C : ZC X G Y nL cc own Ts rm fl) {K : Option Value → va_W → Prop} {ty : FieldType} (R : ZR X G Y K cells slots (some ty)) {v : Int32} (hn : narrow ty (.int v) = .int v) (hd : decode cc pc = .ok (.ireturn, 1)) (hk : K (some (.int v)) ws) : Z l X G Y nL cells slots pc lv [.int v] ws := fun H locs ls hP hD hS h => by
  rw [R.1]
  exact W.zret C.1 C.2.1 R.2.1 hn (fun t ht hW => ⟨⟨_, _, rfl, hk, by rw [ht]; exact hP, hD⟩, hS.F ht⟩) hS.2.2 hd R.2.2
theorem z_lret (C : ZC X G Y nL cc own Ts rm fl) {K : Option Value → va_W → Prop} (R : ZR X G Y K cells slots (some .long)) {v : Int64} (hd : decode cc pc = .ok (.lreturn, 1)) (hk : K (some (.long v)) ws) : Z l X G Y nL cells slots pc lv [.long v] ws := fun H locs ls hP hD hS h => by
  rw [R.1]
  exact W.lret C.1 C.2.1 R.2.1 (fun t ht hW => ⟨⟨_, _, rfl, hk, by rw [ht]; exact hP, hD⟩, hS.F ht⟩) hS.2.2 hd R.2.2
theorem z_vret (C : ZC X G Y nL cc own Ts rm fl) {K : Option Value → va_W → Prop} (R : ZR X G Y K cells slots none) (hd : decode cc pc = .ok (.return_, 1)) (hk : K none ws) : Z l X G Y nL cells slots pc lv [] ws := fun H locs ls hP hD hS h => by
  rw [R.1]
  exact W.vret C.1 C.2.1 R.2.1 (fun t ht hW => ⟨⟨_, _, rfl, hk, by rw [ht]; exact hP, hD⟩, hS.F ht⟩) hS.2.2 hd R.2.2
/-! calls -/
theorem z_run (a : Array Value) {mc ms : Nat} {K : Option Value → va_W → Prop} {H : Heap} {locs : List Loc} {ls : Array Slot} {st0 : List Value} {wc wr : va_W} (isC isR : List Nat) (hC : isC.map (fun i => ws[i]?) = wc.map some) (hR : isR.map (fun i => ws[i]?) = wr.map some) (hn : va_nd isR = true) (hdis : ∀ i ∈ isR, i ∉ isC)
    (hP : va_P G.1 vwCl ws H) (hD : va_D Y.1 ws) (hS : va_S Y.1 X.2.2.2.1.heap H locs) (hA : ∀ q : Nat, X.2.2.2.1.heap.size ≤ q → Y.1 q) (hl : lv_has ls nL lv)
    (hr : va_Run X.1 l X.2.1 X.2.2.1 X.2.2.2.1 X.2.2.2.2.1 X.2.2.2.2.2.1 X.2.2.2.2.2.2.1 X.2.2.2.2.2.2.2.1 X.2.2.2.2.2.2.2.2 H locs cells slots mc ms (F0 X.2.2.2.2.1 pc ls st0) rest (zQ K G.1 (va_A wc H.size) a) (va_A wc H.size))
    (kk : ∀ (v : Option Value) (w1 : va_W), K v w1 → Z l X G Y nL (cells + mc) (slots + ms) (pc + 3) lv (v.toList ++ rest) (wr ++ w1)) : W X.1 l X.2.1 X.2.2.1 X.2.2.2.1 X.2.2.2.2.1 X.2.2.2.2.2.1 X.2.2.2.2.2.2.1 X.2.2.2.2.2.2.2.1 X.2.2.2.2.2.2.2.2 H locs cells slots Y.2 (F0 X.2.2.2.2.1 pc ls st0) := by
  intro T hT XX
  have hF := va_free (wc := wc) hD hS hA isC hC
  obtain ⟨v, st₀, t, T', L, h0, X', hL, e1, e2, ⟨⟨v2, w1, hv, hk, hP1, hD1⟩, hz, hk2⟩, step⟩ := hr T hT XX
  cases hv
  rw [h0] at hz hk2
  have hS' : va_S Y.1 X.2.2.2.1.heap T'.heap (locs ++ L) := ⟨Nat.le_trans hS.1 (by rw [e1]; exact hz), fun q h1 h2 => by rw [e1, hk2 q (Nat.lt_of_lt_of_le h1 hS.1) (fun z => h2 (hF q z))]; exact hS.2.1 q h1 h2, fun q hq => by
      rcases List.mem_append.mp hq with h | h
      · exact hS.2.2 q h
      · exact hF _ (hL q h)⟩
  obtain ⟨hP2, hD2⟩ := va_join (H1 := T'.heap) hP hD isC isR hC hR hn hdis (fun q h1 h2 => by rw [e1]; exact hk2 q h1 h2) hF (by rw [e1]; exact hP1) hD1
  obtain ⟨t2, a1, b1⟩ := kk v w1 hk T'.heap (locs ++ L) ls hP2 hD2 hS' hl T' rfl X'
  exact ⟨t2, step t2 a1, b1⟩
theorem z_pre (C : ZC X G Y nL cc own Ts rm fl) {H : Heap} {locs : List Loc} {wc : va_W} (isC : List Nat) (hC : isC.map (fun i => ws[i]?) = wc.map some) (hn : va_nd isC = true) (hP : va_P G.1 vwCl ws H) (hD : va_D Y.1 ws) (hS : va_S Y.1 X.2.2.2.1.heap H locs) (av : List Value) {fy : Prop} (hfl : fy → fl) : ∀ U : State, U.heap = H → X.2.2.2.1.WarmedH U.vm → zPre G av wc fy H.size av.toArray U := by
  intro U hU hW
  have hF := va_free (wc := wc) hD hS C.fr isC hC
  have hPc : va_P G.1 vwCl wc H := hP.sub isC (by
    have h2 : (isC.map (fun i => ws[i]?)).filterMap id = (wc.map some).filterMap id := by rw [hC]
    rw [List.filterMap_map, List.filterMap_map] at h2
    simpa using h2)
  have hDc : va_D Y.1 wc := hD.sub isC hn hC
  refine ⟨rfl, by rw [hU], by rw [hU]; exact hPc, va_K.moved hW.alike C.ka, hDc.weaken (fun _ _ _ _ => trivial), fun f => ?_, zN.warm hW C.2.2.2.2.2.2.2.2.2⟩
  rw [hU]
  exact ((C.2.2.2.2.2.2.2.2.1 (hfl f)).kept hS.2.1).narrow hF |>.moved hW.alike
/-- the sizes of a call -/
def zRoom (y : MethodName) (wy : List Cond) (bytes : ByteArray) (maxL : Nat) (ret : Option FieldType) (rmy rm : Room) (mc ms : Nat) (n : Nat) : Prop := (∃ ws', wy = Cond.code y bytes maxL ret :: ws') ∧ (rmy.cells = mc ∧ rmy.slots = ms) ∧ (y.cls ≠ "java/lang/invoke/MethodHandle" ∧ y.cls ≠ "java/lang/invoke/VarHandle" ∧ (parseMethodDescriptor y.desc).map (fun d => d.parameters.length) = some n) ∧ (rmy.frames + 1 ≤ rm.frames ∧ 8 + (maxL + 11) + rmy.locals ≤ rm.locals)
theorem z_callV (C : ZC X G Y nL cc own Ts rm fl) {idx : Nat} (hd : decode cc pc = .ok (.invokevirtual idx, 3)) {y : MethodName} {wy : List Cond} {rmy : Room} {mc ms : Nat} {fy : Prop} {As : List Value} {b : Nat} {wc : va_W} {K : Option Value → va_W → Prop} (hM : Kt l G y wy rmy mc ms fy (.ref b :: As) wc K) {Cn : String} (hg : GoodIn Ts (wsV own idx Cn y wy)) {bytes : ByteArray} {maxL : Nat} {ret : Option FieldType} (hr : zRoom y wy bytes maxL ret rmy rm mc ms As.length) (hy : y.cls = Cn) {ci N : Nat} {T : u_T} (hc : zCl ci Cn T N) {fs : List Value} (hb : wc[0]? = some (b, .inr (ci, fs))) (hfl : fy → fl)
    (hst : st = As.reverse ++ .ref b :: rest) (hcat : (rest.map fun v => v.category).sum ≤ 8) {wr : va_W} (isC isR : List Nat) (hC : isC.map (fun i => ws[i]?) = wc.map some) (hR : isR.map (fun i => ws[i]?) = wr.map some) (hnC : va_nd isC = true) (hnR : va_nd isR = true) (hdis : ∀ i ∈ isR, i ∉ isC) (hf : cells + mc ≤ rm.cells ∧ slots + ms ≤ rm.slots)
    (kk : ∀ (v : Option Value) (w1 : va_W), K v w1 → Z l X G Y nL (cells + mc) (slots + ms) (pc + 3) lv (v.toList ++ rest) (wr ++ w1)) : Z l X G Y nL cells slots pc lv st ws := fun H locs ls hP hD hS h => by
  subst hst
  obtain ⟨⟨ws', hw⟩, ⟨hrc, hrs⟩, hyy, hR2⟩ := hr
  have hrm := C.2.2.2.2.2.2.2.1
  refine z_run (Value.ref b :: As).toArray isC isR hC hR hnR hdis hP hD hS C.fr h ?_ kk
  have hPc : va_P G.1 vwCl wc H := hP.sub isC (by
    have h2 : (isC.map (fun i => ws[i]?)).filterMap id = (wc.map some).filterMap id := by rw [hC]
    rw [List.filterMap_map, List.filterMap_map] at h2
    simpa using h2)
  exact va_runV (As := As) (rest := rest) ⟨C.1, C.2.1, C.2.2.1, C.ow, C.ts⟩ (hM H.size) (cwV As.length C.ts hg hw hrc hrs ⟨hy, hyy⟩ (by rw [hrm]; exact hR2)) ⟨zPre_blind _ _ _ _ _, va_recv C.ka hPc hc.1 hb, z_pre C isC hC hnC hP hD hS _ hfl⟩ rfl rfl h.1 rfl (lv_room hcat) hd (by rw [hrm]; exact hf)
theorem z_callS (C : ZC X G Y nL cc own Ts rm fl) {idx : Nat} (hd : decode cc pc = .ok (.invokestatic idx, 3)) {y : MethodName} {wy : List Cond} {rmy : Room} {mc ms : Nat} {fy : Prop} {As : List Value} {wc : va_W} {K : Option Value → va_W → Prop} (hM : Kt l G y wy rmy mc ms fy As wc K) (hg : GoodIn Ts (va_wsS own idx y wy)) {bytes : ByteArray} {maxL : Nat} {ret : Option FieldType} (hr : zRoom y wy bytes maxL ret rmy rm mc ms As.length) (hfl : fy → fl)
    (hst : st = As.reverse ++ rest) (hcat : (rest.map fun v => v.category).sum ≤ 8) {wr : va_W} (isC isR : List Nat) (hC : isC.map (fun i => ws[i]?) = wc.map some) (hR : isR.map (fun i => ws[i]?) = wr.map some) (hnC : va_nd isC = true) (hnR : va_nd isR = true) (hdis : ∀ i ∈ isR, i ∉ isC) (hf : cells + mc ≤ rm.cells ∧ slots + ms ≤ rm.slots)
    (kk : ∀ (v : Option Value) (w1 : va_W), K v w1 → Z l X G Y nL (cells + mc) (slots + ms) (pc + 3) lv (v.toList ++ rest) (wr ++ w1)) : Z l X G Y nL cells slots pc lv st ws := fun H locs ls hP hD hS h => by
  subst hst
  obtain ⟨⟨ws', hw⟩, ⟨hrc, hrs⟩, hyy, hR2⟩ := hr
  have hrm := C.2.2.2.2.2.2.2.1
  refine z_run As.toArray isC isR hC hR hnR hdis hP hD hS C.fr h ?_ kk
  exact va_runS (As := As) (rest := rest) ⟨C.1, C.2.1, C.2.2.1, C.ow, C.ts⟩ (hM H.size) (va_cwS As.length C.ts hg hw hrc hrs hyy (by rw [hrm]; exact hR2)) ⟨zPre_blind _ _ _ _ _, z_pre C isC hC hnC hP hD hS _ hfl⟩ rfl rfl h.1 rfl (lv_room hcat) hd (by rw [hrm]; exact hf)
theorem z_callSN (C : ZC X G Y nL cc own Ts rm fl) {idx : Nat} (hd : decode cc pc = .ok (.invokestatic idx, 3)) {y : MethodName} {wy : List Cond} {rmy : Room} {mc ms : Nat} {fy : Prop} {As : List Value} {wc : va_W} {K : Option Value → va_W → Prop} (hM : Kt l G y wy rmy mc ms fy As wc K) (hg : GoodIn Ts wy) {bytes : ByteArray} {maxL : Nat} {ret : Option FieldType} (hr : zRoom y wy bytes maxL ret rmy rm mc ms As.length) {host : String} (hnn : zN X.2.2.2.1 → va_Nw (.methodLinkNest own idx y host) X.2.2.2.1) (hst0 : Cond.static y ∈ Ts) (hini : Cond.initialized y.cls ∈ Ts) (hfl : fy → fl)
    (hst : st = As.reverse ++ rest) (hcat : (rest.map fun v => v.category).sum ≤ 8) {wr : va_W} (isC isR : List Nat) (hC : isC.map (fun i => ws[i]?) = wc.map some) (hR : isR.map (fun i => ws[i]?) = wr.map some) (hnC : va_nd isC = true) (hnR : va_nd isR = true) (hdis : ∀ i ∈ isR, i ∉ isC) (hf : cells + mc ≤ rm.cells ∧ slots + ms ≤ rm.slots)
    (kk : ∀ (v : Option Value) (w1 : va_W), K v w1 → Z l X G Y nL (cells + mc) (slots + ms) (pc + 3) lv (v.toList ++ rest) (wr ++ w1)) : Z l X G Y nL cells slots pc lv st ws := fun H locs ls hP hD hS h => by
  subst hst
  obtain ⟨⟨ws', hw⟩, ⟨hrc, hrs⟩, hyy, hR2⟩ := hr
  have hrm := C.2.2.2.2.2.2.2.1
  refine z_run As.toArray isC isR hC hR hnR hdis hP hD hS C.fr h ?_ kk
  exact va_runSN (As := As) (rest := rest) ⟨C.1, C.2.1, C.2.2.1, C.ow, C.ts⟩ (hM H.size) ⟨va_cnB As.length C.ts hg hw hrc hrs (hnn C.2.2.2.2.2.2.2.2.2) (C.ts _ hini) hyy (by rw [hrm]; exact hR2), C.ts _ hst0, trivial⟩ ⟨zPre_blind _ _ _ _ _, z_pre C isC hC hnC hP hD hS _ hfl⟩ rfl rfl h.1 rfl (lv_room hcat) hd (by rw [hrm]; exact hf)
theorem z_callI (C : ZC X G Y nL cc own Ts rm fl) {idx : Nat} (hd : decode cc pc = .ok (.invokespecial idx, 3)) {y : MethodName} {wy : List Cond} {rmy : Room} {mc ms : Nat} {fy : Prop} {As : List Value} {b : Nat} {wc : va_W} {K : Option Value → va_W → Prop} (hM : Kt l G y wy rmy mc ms fy (.ref b :: As) wc K) (hg : GoodIn Ts wy) {bytes : ByteArray} {maxL : Nat} (hr : zRoom y wy bytes maxL none rmy rm mc ms As.length) (hini : Cond.initialized y.cls ∈ Ts) (hlk : Cond.methodLink own idx y ∈ Ts) (him : Cond.instanceMethod y ∈ Ts) (hyn : y.name = "<init>") (hfl : fy → fl)
    (hst : st = As.reverse ++ .ref b :: rest) (hcat : (rest.map fun v => v.category).sum ≤ 8) {wr : va_W} (isC isR : List Nat) (hC : isC.map (fun i => ws[i]?) = wc.map some) (hR : isR.map (fun i => ws[i]?) = wr.map some) (hnC : va_nd isC = true) (hnR : va_nd isR = true) (hdis : ∀ i ∈ isR, i ∉ isC) (hf : cells + mc ≤ rm.cells ∧ slots + ms ≤ rm.slots)
    (kk : ∀ (v : Option Value) (w1 : va_W), K v w1 → Z l X G Y nL (cells + mc) (slots + ms) (pc + 3) lv (v.toList ++ rest) (wr ++ w1)) : Z l X G Y nL cells slots pc lv st ws := fun H locs ls hP hD hS h => by
  subst hst
  obtain ⟨⟨ws', hw⟩, ⟨hrc, hrs⟩, hyy, hR2⟩ := hr
  have hrm := C.2.2.2.2.2.2.2.1
  refine z_run (Value.ref b :: As).toArray isC isR hC hR hnR hdis hP hD hS C.fr h ?_ kk
  exact va_runI (As := As) (rest := rest) ⟨C.1, C.2.1, C.2.2.1, C.ow, C.ts⟩ (hM H.size) (cwI As.length C.ts hg hw hrc hrs (C.ts _ hini) (C.ts _ hlk) (C.ts _ him) hyn hyy (by rw [hrm]; exact hR2)) ⟨zPre_blind _ _ _ _ _, z_pre C isC hC hnC hP hD hS _ hfl⟩ rfl rfl h.1 rfl (lv_room hcat) hd (by rw [hrm]; exact hf)
theorem z_objInit (C : ZC X G Y nL cc own Ts rm fl) {idx b : Nat} (hd : decode cc pc = .ok (.invokespecial idx, 3)) (hlk : Cond.methodLink own idx objectInit ∈ Ts) (him : Cond.instanceMethod objectInit ∈ Ts) (hco : Cond.code objectInit ⟨#[0xb1]⟩ 1 none ∈ Ts) (h1 : 1 ≤ rm.frames) (h2 : (st.map fun v => v.category).sum + 12 ≤ rm.locals) (kk : Z l X G Y nL cells slots (pc + 3) lv st ws) : Z l X G Y nL cells slots pc lv (.ref b :: st) ws := fun H locs ls hP hD hS h => by
  have hrm := C.2.2.2.2.2.2.2.1
  refine W.objInit C.1 C.2.1 C.ow (C.ts _ hlk) (C.ts _ him) (C.ts _ hco) rfl (by rw [C.2.2.1]; exact h.1) rfl hd (by rw [hrm]; exact h1) (by rw [hrm]; show 2 * 0 + _ + 12 ≤ _; omega) ?_
  exact kk H locs ls hP hD hS h
theorem z_fix {pc2 : Nat} {st2 : List Value} (is : List Nat) (h1 : pc = pc2) (h2 : st = st2) (h : is.map (fun i => ws[i]?) = ws'.map some) (hn : va_nd is = true) (kk : Z l X G Y nL cells slots pc2 lv st2 ws') : Z l X G Y nL cells slots pc lv st ws := by
  subst h1; subst h2
  exact z_ws is h hn kk
end ZRules2
