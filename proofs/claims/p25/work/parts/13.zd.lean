/-! THE WORLD JUDGEMENT: longs, Math.max, arraycopy, switches, rows seen otherwise -/
theorem arrV_same (c : ClassId) {N : Nat} {f g : Nat → Value} (h : ∀ j, j < N → f j = g j) : arrV c N f = arrV c N g := by
  unfold arrV
  congr 2
  funext j
  exact h j.val j.isLt
theorem vp_same_i (c : ClassId) {n : Nat} {f g : Nat → Int32} (h : ∀ j, j < n → f j = g j) : vp_cell c (n, .inl f) = vp_cell c (n, .inl g) := by
  rw [vp_cell_i, vp_cell_i]
  exact arrV_same c fun j hj => by rw [h j hj]
theorem vp_same_l (c : ClassId) {n : Nat} {f g : Nat → Int64} (h : ∀ j, j < n → f j = g j) : vp_cell c (n, .inr (.inl f)) = vp_cell c (n, .inr (.inl g)) := by
  rw [vp_cell_l, vp_cell_l]
  exact arrV_same c fun j hj => by rw [h j hj]
theorem vp_same_q (c : ClassId) {n : Nat} {f g : Nat → Option Nat} (h : ∀ j, j < n → f j = g j) : vp_cell c (n, .inr (.inr (.inr (.inr f)))) = vp_cell c (n, .inr (.inr (.inr (.inr g)))) := by
  rw [vp_cell_q, vp_cell_q]
  exact arrV_same c fun j hj => by rw [h j hj]
section ZRules3
variable {l : Launch} {X : ZX} {G : ZG} {Y : ZY} {nL cells slots pc : Nat} {lv lv' : List (Nat × Value)} {st rest : List Value} {ws ws' : va_W} {cc : ByteArray} {own : String} {Ts : List Cond} {rm : Room} {fl : Prop}
theorem z_cell {a : Nat} {e e' : va_E} (q : Nat) (he : ws[q]? = some (a, e)) (h : ∀ H : Heap, va_at G.1 vwCl (a, e) H → va_at G.1 vwCl (a, e') H) (hw : ws.set q (a, e') = ws') (kk : Z l X G Y nL cells slots pc lv st ws') : Z l X G Y nL cells slots pc lv st ws := fun H locs ls hP hD hS hl => by
  subst hw
  exact kk H locs ls (hP.set hD he (h H (hP q _ he)) (fun _ _ => rfl)) (hD.set he) hS hl
theorem z_rowI {a n : Nat} {F : Nat → Int} (F' : Nat → Int) (q : Nat) (he : ws[q]? = some (cI G a n F)) (h : ∀ j, j < n → F j = F' j) (hw : ws.set q (cI G a n F') = ws') (kk : Z l X G Y nL cells slots pc lv st ws') : Z l X G Y nL cells slots pc lv st ws := z_cell (e' := .inl (G.2.1, n, .inl (fun j => iI (F' j)))) q he (fun H hh => Eq.trans (show H[a]? = some (vp_cell _ _) from hh) (congrArg some (vp_same_i _ (fun j hj => by rw [h j hj])))) hw kk
theorem z_rowC {a n : Nat} {F : Nat → Int} (F' : Nat → Int) (q : Nat) (he : ws[q]? = some (cC G a n F)) (h : ∀ j, j < n → F j = F' j) (hw : ws.set q (cC G a n F') = ws') (kk : Z l X G Y nL cells slots pc lv st ws') : Z l X G Y nL cells slots pc lv st ws := z_cell (e' := .inl (G.2.2.2.1, n, .inl (fun j => iI (F' j)))) q he (fun H hh => Eq.trans (show H[a]? = some (vp_cell _ _) from hh) (congrArg some (vp_same_i _ (fun j hj => by rw [h j hj])))) hw kk
theorem z_rowL {a n : Nat} {F : Nat → Int64} (F' : Nat → Int64) (q : Nat) (he : ws[q]? = some (cL G a n F)) (h : ∀ j, j < n → F j = F' j) (hw : ws.set q (cL G a n F') = ws') (kk : Z l X G Y nL cells slots pc lv st ws') : Z l X G Y nL cells slots pc lv st ws := z_cell (e' := .inl (G.2.2.1, n, .inr (.inl F'))) q he (fun H hh => Eq.trans (show H[a]? = some (vp_cell _ _) from hh) (congrArg some (vp_same_l _ h))) hw kk
theorem z_rowS {a n : Nat} {F : Nat → Option Nat} (F' : Nat → Option Nat) (q : Nat) (he : ws[q]? = some (cS G a n F)) (h : ∀ j, j < n → F j = F' j) (hw : ws.set q (cS G a n F') = ws') (kk : Z l X G Y nL cells slots pc lv st ws') : Z l X G Y nL cells slots pc lv st ws := z_cell (e' := .inl (G.2.2.2.2.1, n, .inr (.inr (.inr (.inr F'))))) q he (fun H hh => Eq.trans (show H[a]? = some (vp_cell _ _) from hh) (congrArg some (vp_same_q _ h))) hw kk
theorem z_ladd (C : ZC X G Y nL cc own Ts rm fl) {x y : Int64} (hd : decode cc pc = .ok (.ladd, 1)) (kk : Z l X G Y nL cells slots (pc + 1) lv (.long (x + y) :: st) ws) : Z l X G Y nL cells slots pc lv (.long y :: .long x :: st) ws := fun H locs ls hP hD hS h => lv_ladd C.1 C.2.1 hd (kk H locs ls hP hD hS h)
theorem z_lsub (C : ZC X G Y nL cc own Ts rm fl) {x y : Int64} (hd : decode cc pc = .ok (.lsub, 1)) (kk : Z l X G Y nL cells slots (pc + 1) lv (.long (x - y) :: st) ws) : Z l X G Y nL cells slots pc lv (.long y :: .long x :: st) ws := fun H locs ls hP hD hS h => lv_lsub C.1 C.2.1 hd (kk H locs ls hP hD hS h)
theorem z_land (C : ZC X G Y nL cc own Ts rm fl) {x y : Int64} (hd : decode cc pc = .ok (.land, 1)) (kk : Z l X G Y nL cells slots (pc + 1) lv (.long (x &&& y) :: st) ws) : Z l X G Y nL cells slots pc lv (.long y :: .long x :: st) ws := fun H locs ls hP hD hS h => lv_land C.1 C.2.1 hd (kk H locs ls hP hD hS h)
theorem z_lor (C : ZC X G Y nL cc own Ts rm fl) {x y : Int64} (hd : decode cc pc = .ok (.lor, 1)) (kk : Z l X G Y nL cells slots (pc + 1) lv (.long (x ||| y) :: st) ws) : Z l X G Y nL cells slots pc lv (.long y :: .long x :: st) ws := fun H locs ls hP hD hS h => lv_lor C.1 C.2.1 hd (kk H locs ls hP hD hS h)
theorem z_lxor (C : ZC X G Y nL cc own Ts rm fl) {x y : Int64} (hd : decode cc pc = .ok (.lxor, 1)) (kk : Z l X G Y nL cells slots (pc + 1) lv (.long (x ^^^ y) :: st) ws) : Z l X G Y nL cells slots pc lv (.long y :: .long x :: st) ws := fun H locs ls hP hD hS h => lv_lxor C.1 C.2.1 hd (kk H locs ls hP hD hS h)
theorem z_lneg (C : ZC X G Y nL cc own Ts rm fl) {x : Int64} (hd : decode cc pc = .ok (.lneg, 1)) (kk : Z l X G Y nL cells slots (pc + 1) lv (.long (-x) :: st) ws) : Z l X G Y nL cells slots pc lv (.long x :: st) ws := fun H locs ls hP hD hS h => lv_lneg C.1 C.2.1 hd (kk H locs ls hP hD hS h)
/-- the shifts by a small number -/
def zsr (x : Int64) (k : Nat) : Int64 := (x.toUInt64 >>> UInt64.ofNat k).toInt64
def zsl (x : Int64) (k : Nat) : Int64 := ⟨⟨x.toBitVec <<< k⟩⟩
theorem zcu64 : ∀ k, k < 64 → ((nI k).toInt64.toUInt64 &&& Int64.toUInt64 63) = UInt64.ofNat k := by decide +kernel
theorem zcl64 : ∀ k, k < 64 → ((nI k).toInt64 &&& 63).toBitVec = BitVec.ofNat 64 k := by decide +kernel
theorem zsm64 : ∀ k, k < 64 → ((BitVec.ofNat 64 k).smod 64).toNat = k := by decide +kernel
theorem z_lushr (C : ZC X G Y nL cc own Ts rm fl) {x : Int64} {b : Int} (k : Nat) (hk : b % 64 = (k : Int)) (hb : 0 ≤ b ∧ b < 64) (hd : decode cc pc = .ok (.lushr, 1)) (kk : Z l X G Y nL cells slots (pc + 1) lv (.long (zsr x k) :: st) ws) : Z l X G Y nL cells slots pc lv (.int (iI b) :: .long x :: st) ws := fun H locs ls hP hD hS h => by
  refine lv_lushr C.1 C.2.1 hd ?_ (kk H locs ls hP hD hS h)
  rw [iI_nat' hb.1, zcu64 _ (by omega), show b.toNat = k by omega]
  rfl
theorem z_lshl (C : ZC X G Y nL cc own Ts rm fl) {x : Int64} {b : Int} (k : Nat) (hk : b % 64 = (k : Int)) (hb : 0 ≤ b ∧ b < 64) (hd : decode cc pc = .ok (.lshl, 1)) (kk : Z l X G Y nL cells slots (pc + 1) lv (.long (zsl x k) :: st) ws) : Z l X G Y nL cells slots pc lv (.int (iI b) :: .long x :: st) ws := fun H locs ls hP hD hS h => by
  refine lv_lshl C.1 C.2.1 hd ?_ (kk H locs ls hP hD hS h)
  rw [iI_nat' hb.1]
  apply Int64.toBitVec_inj.mp
  rw [Int64.toBitVec_shiftLeft, zcl64 _ (by omega), show b.toNat = k by omega]
  show x.toBitVec <<< ((BitVec.ofNat 64 k).smod 64) = x.toBitVec <<< k
  rw [BitVec.shiftLeft_eq', zsm64 _ (by omega)]
theorem z_l2i (C : ZC X G Y nL cc own Ts rm fl) {x : Int64} {z : Int} (hv : x.toInt32 = iI z) (hd : decode cc pc = .ok (.l2i, 1)) (kk : Z l X G Y nL cells slots (pc + 1) lv (.int (iI z) :: st) ws) : Z l X G Y nL cells slots pc lv (.long x :: st) ws := fun H locs ls hP hD hS h => lv_l2i C.1 C.2.1 hd hv (kk H locs ls hP hD hS h)
theorem z_lcmp (C : ZC X G Y nL cc own Ts rm fl) {x y : Int64} (hd : decode cc pc = .ok (.lcmp, 1)) (h1 : x = y → Z l X G Y nL cells slots (pc + 1) lv (.int (iI 0) :: st) ws) (h2 : ¬ x = y → ∀ z : Int, z = 1 ∨ z = -1 → Z l X G Y nL cells slots (pc + 1) lv (.int (iI z) :: st) ws) : Z l X G Y nL cells slots pc lv (.long y :: .long x :: st) ws := fun H locs ls hP hD hS h => by
  refine W.lcmp C.1 C.2.1 hd ?_
  unfold lg_cmp
  by_cases he : x = y
  · rw [if_neg (by rw [he]; exact fun q => absurd q (Int64.lt_irrefl (a := y))), if_pos he]
    exact h1 he H locs ls hP hD hS h
  · by_cases hg : x > y
    · rw [if_pos hg]
      exact h2 he 1 (Or.inl rfl) H locs ls hP hD hS h
    · rw [if_neg hg, if_neg he]
      exact h2 he (-1) (Or.inr rfl) H locs ls hP hD hS h
theorem z_iushr (C : ZC X G Y nL cc own Ts rm fl) {x y : Int32} (hd : decode cc pc = .ok (.iushr, 1)) (kk : Z l X G Y nL cells slots (pc + 1) lv (.int ((x.toUInt32 >>> (y.toUInt32 &&& Int32.toUInt32 31)).toInt32) :: st) ws) : Z l X G Y nL cells slots pc lv (.int y :: .int x :: st) ws := fun H locs ls hP hD hS h => lv_iushr C.1 C.2.1 hd rfl (kk H locs ls hP hD hS h)
theorem z_iadd32 (C : ZC X G Y nL cc own Ts rm fl) {x y : Int32} (hd : decode cc pc = .ok (.iadd, 1)) (kk : Z l X G Y nL cells slots (pc + 1) lv (.int (x + y) :: st) ws) : Z l X G Y nL cells slots pc lv (.int y :: .int x :: st) ws := fun H locs ls hP hD hS h => lv_iadd C.1 C.2.1 hd (kk H locs ls hP hD hS h)
theorem z_isub32 (C : ZC X G Y nL cc own Ts rm fl) {x y : Int32} (hd : decode cc pc = .ok (.isub, 1)) (kk : Z l X G Y nL cells slots (pc + 1) lv (.int (x - y) :: st) ws) : Z l X G Y nL cells slots pc lv (.int y :: .int x :: st) ws := fun H locs ls hP hD hS h => lv_isub C.1 C.2.1 hd (kk H locs ls hP hD hS h)
theorem z_iand32 (C : ZC X G Y nL cc own Ts rm fl) {x y : Int32} (hd : decode cc pc = .ok (.iand, 1)) (kk : Z l X G Y nL cells slots (pc + 1) lv (.int (x &&& y) :: st) ws) : Z l X G Y nL cells slots pc lv (.int y :: .int x :: st) ws := fun H locs ls hP hD hS h => lv_iand C.1 C.2.1 hd (kk H locs ls hP hD hS h)
theorem z_lushr64 (C : ZC X G Y nL cc own Ts rm fl) {x : Int64} {y : Int32} (hd : decode cc pc = .ok (.lushr, 1)) (kk : Z l X G Y nL cells slots (pc + 1) lv (.long ((x.toUInt64 >>> (y.toInt64.toUInt64 &&& Int64.toUInt64 63)).toInt64) :: st) ws) : Z l X G Y nL cells slots pc lv (.int y :: .long x :: st) ws := fun H locs ls hP hD hS h => lv_lushr C.1 C.2.1 hd rfl (kk H locs ls hP hD hS h)
theorem z_max (C : ZC X G Y nL cc own Ts rm fl) {a b : Int} {idx : Nat} (hd : decode cc pc = .ok (.invokestatic idx, 3)) (h1 : Cond.methodLink own idx Lib.Math.max.name ∈ Ts) (h2 : Cond.static Lib.Math.max.name ∈ Ts) (h3 : Cond.initialized "java/lang/Math" ∈ Ts) (h4 : Cond.code Lib.Math.max.name Lib.Math.max.code 2 (some .int) ∈ Ts) (hf : 1 ≤ rm.frames) (hlo : (st.map fun v => v.category).sum + 13 ≤ rm.locals) (hc : cells ≤ rm.cells) (hs : slots ≤ rm.slots) (ra : iR a) (rb : iR b) (c : Int) (hm : (a < b → c = b) ∧ (b ≤ a → c = a)) (kk : Z l X G Y nL cells slots (pc + 3) lv (.int (iI c) :: st) ws) : Z l X G Y nL cells slots pc lv (.int (iI b) :: .int (iI a) :: st) ws := fun H locs ls hP hD hS h => by
  have hrm := C.2.2.2.2.2.2.2.1
  refine va_mmax C.1 C.2.1 (by rw [C.2.2.1]; exact h.1.symm) C.ow (C.ts _ h1) (C.ts _ h2) (C.ts _ h3) (C.ts _ h4) (by rw [hrm]; exact hf) (by rw [hrm]; exact hlo) (by rw [hrm]; exact hc) (by rw [hrm]; exact hs) hd ?_
  have e : (if iI a < iI b then iI b else iI a) = iI c := by
    by_cases q : a < b
    · rw [if_pos ((iI_lt ra rb).mpr q), hm.1 q]
    · rw [if_neg (fun z => q ((iI_lt ra rb).mp z)), hm.2 (by omega)]
  rw [e]
  exact kk H locs ls hP hD hS h
theorem z_tabIn (C : ZC X G Y nL cc own Ts rm fl) {dflt lo hi a : Int} {offs : Array Int} {len : Nat} {off : Int} {tgt : Nat} (hd : decode cc pc = .ok (.tableswitch dflt lo hi offs, len)) (ra : iR a) (h1 : lo ≤ a) (h2 : a ≤ hi) (ho : offs[(a - lo).toNat]? = some off) (ht : (pc : Int) + off = (tgt : Int)) (kk : Z l X G Y nL cells slots tgt lv st ws) : Z l X G Y nL cells slots pc lv (.int (iI a) :: st) ws := fun H locs ls hP hD hS h =>
  lv_tableIn C.1 C.2.1 hd (by rw [iI_toInt ra]; omega) (by rw [iI_toInt ra]; omega) (by rw [iI_toInt ra]; exact ho) ht (kk H locs ls hP hD hS h)
theorem z_tabOut (C : ZC X G Y nL cc own Ts rm fl) {dflt lo hi a : Int} {offs : Array Int} {len : Nat} {tgt : Nat} (hd : decode cc pc = .ok (.tableswitch dflt lo hi offs, len)) (ra : iR a) (h1 : a < lo ∨ hi < a) (ht : (pc : Int) + dflt = (tgt : Int)) (kk : Z l X G Y nL cells slots tgt lv st ws) : Z l X G Y nL cells slots pc lv (.int (iI a) :: st) ws := fun H locs ls hP hD hS h =>
  lv_tableOut C.1 C.2.1 hd (by rw [iI_toInt ra]; exact h1) ht (kk H locs ls hP hD hS h)
theorem z_copyI (C : ZC X G Y nL cc own Ts rm fl) {a0 a1 N idx : Nat} {F F1 : Nat → Int} {n : Int} (hd : decode cc pc = .ok (.invokestatic idx, 3)) (h1 : Cond.methodLink own idx arraycopyName ∈ Ts) (h2 : Cond.native arraycopyName ∈ Ts) (h3 : Cond.static arraycopyName ∈ Ts) (h4 : Cond.initialized "java/lang/System" ∈ Ts) (hf : 1 ≤ rm.frames) (hlo : (st.map fun v => v.category).sum + (nativeFrameWords "java/lang/System" "arraycopy" 5 + 11) ≤ rm.locals) (hn : n = (N : Int)) (hN : N ≤ 100000) (q0 q1 : Nat) (he0 : ws[q0]? = some (cI G a0 N F)) (he1 : ws[q1]? = some (cI G a1 N F1)) (hw : ws.set q1 (cI G a1 N F) = ws') (kk : Z l X G Y nL cells slots (pc + 3) lv st ws') : Z l X G Y nL cells slots pc lv (.int (iI n) :: .int (iI 0) :: .ref a1 :: .int (iI 0) :: .ref a0 :: st) ws := fun H locs ls hP hD hS h => by
  have hrm := C.2.2.2.2.2.2.2.1
  have c0 : (iI 0).toNatClampNeg = 0 := iI_clamp (by omega) (by omega)
  have cn : (iI n).toNatClampNeg = N := by rw [iI_clamp (by omega) (by omega), hn, Int.toNat_natCast]
  have z0 : ¬ iI 0 < 0 := fun q => by have := (iI_lt0 iR_0).mp q; omega
  have zn : ¬ iI n < 0 := fun q => by have := (iI_lt0 (a := n) ⟨by omega, by omega⟩).mp q; omega
  refine va_copyi C.1 C.2.1 (by rw [C.2.2.1]; exact h.1.symm) C.ow (C.ts _ h1) (C.ts _ h2) (C.ts _ h3) (C.ts _ h4) C.ka hP hD hS q0 q1 0 0 he0 he1 rfl rfl rfl z0 z0 zn (by rw [c0, cn]; omega) (by rw [c0, cn]; omega) (fun _ _ => rfl) (by rw [hrm]; exact hf) (by rw [hrm]; exact hlo) hd (fun H1 locs1 hP1 hD1 hS1 => ?_)
  rw [c0, cn] at hP1 hD1
  have hq : (ws.set q1 (a1, .inl (G.2.1, N, .inl (va_cpy (fun j => iI (F j)) (fun j => iI (F1 j)) 0 0 N))))[q1]? = some (a1, .inl (G.2.1, N, .inl (va_cpy (fun j => iI (F j)) (fun j => iI (F1 j)) 0 0 N))) := by
    have := (List.getElem?_eq_some_iff.mp he1).1
    rw [List.getElem?_set_self this]
  have hP2 := hP1.set hD1 hq (e := .inl (G.2.1, N, .inl (fun j => iI (F j)))) (by
    have hh := hP1 q1 _ hq
    exact Eq.trans (show H1[a1]? = some (vp_cell _ _) from hh) (congrArg some (vp_same_i _ fun j hj => by rw [pk_cpy_in (Nat.zero_le _) (by omega)]; simp))) (fun _ _ => rfl)
  have hD2 := hD1.set hq (e := .inl (G.2.1, N, .inl (fun j => iI (F j))))
  rw [List.set_set] at hP2 hD2
  exact kk H1 locs1 ls (hw ▸ hP2) (hw ▸ hD2) hS1 h
theorem z_copyL (C : ZC X G Y nL cc own Ts rm fl) {a0 a1 N idx : Nat} {F F1 : Nat → Int64} {n : Int} (hd : decode cc pc = .ok (.invokestatic idx, 3)) (h1 : Cond.methodLink own idx arraycopyName ∈ Ts) (h2 : Cond.native arraycopyName ∈ Ts) (h3 : Cond.static arraycopyName ∈ Ts) (h4 : Cond.initialized "java/lang/System" ∈ Ts) (hf : 1 ≤ rm.frames) (hlo : (st.map fun v => v.category).sum + (nativeFrameWords "java/lang/System" "arraycopy" 5 + 11) ≤ rm.locals) (hn : n = (N : Int)) (hN : N ≤ 100000) (q0 q1 : Nat) (he0 : ws[q0]? = some (cL G a0 N F)) (he1 : ws[q1]? = some (cL G a1 N F1)) (hw : ws.set q1 (cL G a1 N F) = ws') (kk : Z l X G Y nL cells slots (pc + 3) lv st ws') : Z l X G Y nL cells slots pc lv (.int (iI n) :: .int (iI 0) :: .ref a1 :: .int (iI 0) :: .ref a0 :: st) ws := fun H locs ls hP hD hS h => by
  have hrm := C.2.2.2.2.2.2.2.1
  have c0 : (iI 0).toNatClampNeg = 0 := iI_clamp (by omega) (by omega)
  have cn : (iI n).toNatClampNeg = N := by rw [iI_clamp (by omega) (by omega), hn, Int.toNat_natCast]
  have z0 : ¬ iI 0 < 0 := fun q => by have := (iI_lt0 iR_0).mp q; omega
  have zn : ¬ iI n < 0 := fun q => by have := (iI_lt0 (a := n) ⟨by omega, by omega⟩).mp q; omega
  refine va_copyl C.1 C.2.1 (by rw [C.2.2.1]; exact h.1.symm) C.ow (C.ts _ h1) (C.ts _ h2) (C.ts _ h3) (C.ts _ h4) C.ka hP hD hS q0 q1 1 1 he0 he1 rfl rfl rfl z0 z0 zn (by rw [c0, cn]; omega) (by rw [c0, cn]; omega) (fun _ _ => rfl) (by rw [hrm]; exact hf) (by rw [hrm]; exact hlo) hd (fun H1 locs1 hP1 hD1 hS1 => ?_)
  rw [c0, cn] at hP1 hD1
  have hq : (ws.set q1 (a1, .inl (G.2.2.1, N, .inr (.inl (va_cpy F F1 0 0 N)))))[q1]? = some (a1, .inl (G.2.2.1, N, .inr (.inl (va_cpy F F1 0 0 N)))) := by
    have := (List.getElem?_eq_some_iff.mp he1).1
    rw [List.getElem?_set_self this]
  have hP2 := hP1.set hD1 hq (e := .inl (G.2.2.1, N, .inr (.inl F))) (by
    have hh := hP1 q1 _ hq
    exact Eq.trans (show H1[a1]? = some (vp_cell _ _) from hh) (congrArg some (vp_same_l _ fun j hj => by rw [pk_cpy_in (Nat.zero_le _) (by omega)]; simp))) (fun _ _ => rfl)
  have hD2 := hD1.set hq (e := .inl (G.2.2.1, N, .inr (.inl F)))
  rw [List.set_set] at hP2 hD2
  exact kk H1 locs1 ls (hw ▸ hP2) (hw ▸ hD2) hS1 h
end ZRules3
