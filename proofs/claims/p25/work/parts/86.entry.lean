/-! THE LAW: its entry -/
/-! THE CLAIM OUT OF ONE WALK OF THE LAW'S BODY. Your part is whole_start (and what it stands on); all else here is the same for every law, but numbers. -/
def R_law : String := "ThirdVotesLaw"
def lw_P (b : Addr) (xs : List Int32) (args : Array Value) (s : State) : Prop := args = #[.ref b] ∧ s.IntsAt b xs ∧ xs.length ≤ 260 ∧ (Jvm.Cond.and given_1 narrow_1).before args s = true
def lw_Q (_ : Array Value) (s : State) (o : Outcome) (t : State) : Prop := o = .returned (some (.int 1)) ∧ Framed s o t [] 600000 7302250
def lw_Z (below : List Frame) (a : Array Value) (s : State) : State → Prop := fun t => ∃ o, t.status = .running ∧ Ended t below o ∧ lw_Q a s o t
/-- the law's own end, with 1 on the stack, nothing written that was there before, its room as the claim has it -/
theorem lw_ret {p : Program} {l : Launch} {e : Env} {s : State} {m : MethodId} {below : List Frame} {meth : Method} {c : Code} {b : Nat} (hx : p.tables.exec = Jvm.exec) (hb : c.code = code) (hr : meth.sig.returnType = ret) (hlocks : meth.locks = false) {pc : Nat} {H : Heap} {ls : Array Slot} (hdg : decode code pc = .ok (.ireturn, 1)) : W p l e room_1 s m #[Value.ref b] below meth c H [] 600000 7302250 (lw_Z below #[Value.ref b] s) (F0 m pc ls [.int 1]) := by
  intro T hT X
  obtain ⟨fs, hret, hrun, hended, hW, hframe⟩ := X.leave (v := some (.int 1)) (hlocks := hlocks) (fun h => by rw [hr] at h; cases h)
  have hmeth' : T.vm.method? m = some meth := X.method'
  refine ⟨T.setFrames fs, ?_, .returned (some (.int 1)), hrun, hended, rfl, ⟨_, rfl⟩, hW, hframe⟩
  jvm_step X.here [X.here.top, hx, hb, hdg, hmeth', hr, ret, narrow_b1]
  (try refine ⟨rfl, ?_⟩); (try refine ⟨rfl, ?_⟩)
  first | (intro acts; rw [hret _ acts rfl rfl rfl]) | rw [hret _ _ rfl rfl rfl]
  exact Steps.refl _
/-- what holds at the law's entry: the machine, the code, the tables' words (any of lw_tbl by 'hts w (by decide +kernel)'), the script of L ints xs at the cell b, what the Statement gives of the start (any of its parts by flat_of_before) -/
def lw_At (p : Program) (s : State) (m : MethodId) (meth : Method) (c : Code) (b L : Nat) (xs : Nat → Int32) : Prop :=
  p.tables.exec = Jvm.exec ∧ c.code = code ∧ meth.sig.returnType = ret ∧ c.maxLocals = 15 ∧ s.vm.findClass R_law = some m.cls ∧ (∀ w ∈ lw_tbl, w.before #[Value.ref b] s = true) ∧ va_X b L xs s s.heap ∧ b < s.heap.size ∧ meth.locks = false ∧ (Jvm.Cond.and given_1 narrow_1).before #[Value.ref b] s = true
/-- a class of arrays of a kind, out of the tables -/
theorem zk_arr {s : State} {args : Array Value} {ty : FieldType} (hq : ∀ c : ClassId, s.vm.findClass ("[" ++ ty.toString) = some c → va_RA s c ty) (h : (Cond.arrayClass ty).before args s = true) : ∃ cA : ClassId, ArrOfT s cA ty ∧ va_RA s cA ty := by
  obtain ⟨cA, kA, comp, h1, h2, h3⟩ := Cond.arrayClass_spec h
  exact ⟨cA, fun n z => ⟨fun k h => (by cases h), kA, h2, comp, h3⟩, hq cA h1⟩
theorem zk_arrO {s : State} {args : Array Value} {C : String} (h : (Cond.arrayOver (.object C)).before args s = true) : ∃ cA : ClassId, ArrOfT s cA (.object C) ∧ va_RA s cA (.object C) := by
  obtain ⟨comp, cA, kA, h1, -, h2, h3, h4⟩ := Cond.arrayOver_spec h
  exact ⟨cA, fun n z => ⟨fun k h => (by cases h), kA, h2, comp, h3⟩, kA, comp, h2, h3, h1, h4⟩
theorem zk_arrA {s : State} {args : Array Value} (h : (Cond.arrayOver (.array .int)).before args s = true) : ∃ cA : ClassId, ArrOfT s cA (.array .int) ∧ va_RA s cA (.array .int) := by
  simp only [Cond.before, Cond.holds, Cond.value, beq_iff_eq] at h
  cases hc : s.vm.findClass (FieldType.array .int).toString with
  | none => simp [hc] at h
  | some comp =>
    simp only [hc, Option.bind_some, Option.bind_eq_some_iff, Option.map_eq_some_iff] at h
    obtain ⟨cA, -, kA, hk, hb⟩ := h
    cases hkind : kA.kind with
    | array component ty =>
      rw [hkind] at hb
      simp at hb
      exact ⟨cA, fun n z => ⟨fun k h => (by cases h), kA, hk, component, by rw [hkind, hb.1]⟩, hb.2⟩
    | _ => rw [hkind] at hb; simp at hb
/-- a table that stands in a static -/
theorem zk_tab {s : State} {args : Array Value} {A : Nat → Prop} {n : String} {F : Nat → Int} (h1 : (Cond.laysStatic "ThirdVotes" n "[I").before args s = true) (h2 : (Cond.initialized "ThirdVotes").before args s = true) (h3 : (Cond.arrayOf (.static "ThirdVotes" n "[I") .int).before args s = true) (h4 : (Cond.eq (.length (.static "ThirdVotes" n "[I")) (.int 5)).before args s = true)
    (e0 : (Cond.eq (.elem (.static "ThirdVotes" n "[I") (.int 0)) (.int (iI (F 0)))).before args s = true) (e1 : (Cond.eq (.elem (.static "ThirdVotes" n "[I") (.int 1)) (.int (iI (F 1)))).before args s = true) (e2 : (Cond.eq (.elem (.static "ThirdVotes" n "[I") (.int 2)) (.int (iI (F 2)))).before args s = true) (e3 : (Cond.eq (.elem (.static "ThirdVotes" n "[I") (.int 3)) (.int (iI (F 3)))).before args s = true) (e4 : (Cond.eq (.elem (.static "ThirdVotes" n "[I") (.int 4)) (.int (iI (F 4)))).before args s = true)
    (hA : ∀ a : Nat, a < s.heap.size → ¬ A a) : zTab n 5 F A s s.heap := by
  obtain ⟨t, ht, hT⟩ := va_Tof (N := 5) (f := fun j => .int (iI (F j))) (by decide) h3 (va_eqt h4) (fun j hj => match j, hj with
    | 0, _ => va_eqt e0
    | 1, _ => va_eqt e1
    | 2, _ => va_eqt e2
    | 3, _ => va_eqt e3
    | 4, _ => va_eqt e4
    | k + 5, hj => absurd hj (by omega)) hA
  exact ⟨t, va_Zof h1 h2 ht hA, hT⟩
set_option maxRecDepth 20000 in
set_option maxHeartbeats 4000000 in
theorem zk_stat {s : State} {b : Nat} {A : Nat → Prop} (hts : ∀ w ∈ lw_tbl, w.before #[Value.ref b] s = true) (hg : (Jvm.Cond.and given_1 narrow_1).before #[Value.ref b] s = true) (hA : ∀ a : Nat, a < s.heap.size → ¬ A a) : zStat A s s.heap := by
  have hs := flat_of_before _ hg
  have hi : (Cond.initialized "ThirdVotes").before #[Value.ref b] s = true := hts _ (by decide +kernel)
  exact ⟨zk_tab (hts _ (by decide +kernel)) hi (hs _ (by decide +kernel)) (hs _ (by decide +kernel)) (hs _ (by decide +kernel)) (hs _ (by decide +kernel)) (hs _ (by decide +kernel)) (hs _ (by decide +kernel)) (hs _ (by decide +kernel)) hA,
    zk_tab (hts _ (by decide +kernel)) hi (hs _ (by decide +kernel)) (hs _ (by decide +kernel)) (hs _ (by decide +kernel)) (hs _ (by decide +kernel)) (hs _ (by decide +kernel)) (hs _ (by decide +kernel)) (hs _ (by decide +kernel)) hA,
    zk_tab (hts _ (by decide +kernel)) hi (hs _ (by decide +kernel)) (hs _ (by decide +kernel)) (hs _ (by decide +kernel)) (hs _ (by decide +kernel)) (hs _ (by decide +kernel)) (hs _ (by decide +kernel)) (hs _ (by decide +kernel)) hA⟩
set_option maxRecDepth 20000 in
set_option maxHeartbeats 4000000 in
theorem zk_nn {s : State} {b : Nat} (hts : ∀ w ∈ lw_tbl, w.before #[Value.ref b] s = true) : zN s := ⟨va_Nw.of rfl (hts _ (by decide +kernel)), va_Nw.of rfl (hts _ (by decide +kernel)), va_Nw.of rfl (hts _ (by decide +kernel)), hts (.arrayOver (.array .int)) (by decide +kernel), va_AO.of (hts (.arrayOver (.object "ThirdVotes$State")) (by decide +kernel))⟩
set_option maxRecDepth 20000 in
set_option maxHeartbeats 4000000 in
theorem zk_G {s : State} {b : Nat} (hts : ∀ w ∈ lw_tbl, w.before #[Value.ref b] s = true) : ∃ G : ZG, va_K G.1 vwCl (zT G) s := by
  obtain ⟨c0, i0, k0⟩ := u_known (C := RX0) (T := TX0) (N := 4) (n := 4) hts inX0 (hts (.instantiable RX0 4) (by decide +kernel))
  obtain ⟨c1, i1, k1⟩ := u_known (C := RX1) (T := TX1) (N := 4) (n := 4) hts inX1 (hts (.instantiable RX1 4) (by decide +kernel))
  obtain ⟨c2, i2, k2⟩ := u_known (C := RX2) (T := TX2) (N := 5) (n := 5) hts inX2 (hts (.instantiable RX2 5) (by decide +kernel))
  obtain ⟨c3, i3, k3⟩ := u_known (C := RX3) (T := TX3) (N := 5) (n := 5) hts inX3 (hts (.instantiable RX3 5) (by decide +kernel))
  obtain ⟨c4, i4, k4⟩ := u_known (C := RX4) (T := TX4) (N := 5) (n := 5) hts inX4 (hts (.instantiable RX4 5) (by decide +kernel))
  obtain ⟨a0, g0, r0⟩ := zk_arr (ty := .int) (fun _ z => z) (hts (.arrayClass .int) (by decide +kernel))
  obtain ⟨a1, g1, r1⟩ := zk_arr (ty := .long) (fun _ z => z) (hts (.arrayClass .long) (by decide +kernel))
  obtain ⟨a2, g2, r2⟩ := zk_arr (ty := .char) (fun _ z => z) (hts (.arrayClass .char) (by decide +kernel))
  obtain ⟨a3, g3, r3⟩ := zk_arrO (C := "ThirdVotes$State") (hts (.arrayOver (.object "ThirdVotes$State")) (by decide +kernel))
  obtain ⟨a4, g4, r4⟩ := zk_arrA (hts (.arrayOver (.array .int)) (by decide +kernel))
  refine ⟨((fun k => match k with
    | 0 => c0
    | 1 => c1
    | 2 => c2
    | 3 => c3
    | _ => c4, fun k => match k with
    | 0 => i0
    | 1 => i1
    | 2 => i2
    | 3 => i3
    | _ => i4), a0, a1, a2, a3, a4), fun k q hq => ?_, fun k q hq => ?_⟩
  · match k, hq with
    | 0, hq => cases hq; exact k0
    | 1, hq => cases hq; exact k1
    | 2, hq => cases hq; exact k2
    | 3, hq => cases hq; exact k3
    | 4, hq => cases hq; exact k4
    | k + 5, hq => simp [vwCl] at hq
  · match k, hq with
    | 0, hq => cases hq; exact ⟨g0, r0⟩
    | 1, hq => cases hq; exact ⟨g1, r1⟩
    | 2, hq => cases hq; exact ⟨g2, r2⟩
    | 3, hq => cases hq; exact ⟨g3, r3⟩
    | 4, hq => cases hq; exact ⟨g4, r4⟩
    | k + 5, hq => simp [zT] at hq
/-- what the law's walk rests on -/
theorem zk_C {p : Program} {e : Env} {s : State} {m : MethodId} {below : List Frame} {meth : Method} {c : Code} {b L : Nat} {xs : Nat → Int32} (Q : State → Prop) (C0 : lw_At p s m meth c b L xs) : ∃ G : ZG, ZC (p, e, room_1, s, m, #[Value.ref b], below, meth, c) G (fun q => s.heap.size ≤ q, Q) 15 cL_law RL lw_tbl room_1 True := by
  obtain ⟨hx, hb, hr, hml, hown, hts, hX, hbl, hlocks, hgv⟩ := id C0
  obtain ⟨G, hG⟩ := zk_G hts
  exact ⟨G, hx, hb, hml, hown, hts, hG, fun q h => h, rfl, fun _ => zk_stat hts hgv (fun a h => Nat.not_le.mpr h), zk_nn hts⟩
/-! THE WORLD JUDGEMENT: the script, and the law's end -/
/-- the script's numbers -/
def zx (xs : Nat → Int32) (j : Nat) : Int := (xs j).toInt
theorem zx_r (xs : Nat → Int32) (j : Nat) : iR (zx xs j) := iR_of _
/-- the script stands, untouched -/
def zScr (X : ZX) (Y : ZY) (b L : Nat) (xs : Nat → Int32) : Prop := va_X b L xs X.2.2.2.1 X.2.2.2.1.heap ∧ b < X.2.2.2.1.heap.size ∧ ¬ Y.1 b ∧ L ≤ 260
section ZRules8
variable {l : Launch} {X : ZX} {G : ZG} {Y : ZY} {nL cells slots pc : Nat} {lv lv' : List (Nat × Value)} {st rest : List Value} {ws ws' : va_W} {cc : ByteArray} {own : String} {Ts : List Cond} {rm : Room} {fl : Prop} {b L : Nat} {xs : Nat → Int32}
theorem z_sld (C : ZC X G Y nL cc own Ts rm fl) (S0 : zScr X Y b L xs) {z : Int} (hd : decode cc pc = .ok (.iaload, 1)) (j : Nat) (hj : z = (j : Int)) (hlt : j < L) (kk : Z l X G Y nL cells slots (pc + 1) lv (.int (iI (zx xs j)) :: st) ws) : Z l X G Y nL cells slots pc lv (.int (iI z) :: .ref b :: st) ws := fun H locs ls hP hD hS h => by
  have hL := S0.2.2.2
  refine va_sld C.1 C.2.1 S0.1 S0.2.1 S0.2.2.1 hS (iI_in (by omega) (by omega) (by omega)) hd ?_
  rw [iI_clamp (by omega) (by omega), show z.toNat = j by omega, ← iI_of (xs j)]
  exact kk H locs ls hP hD hS h
theorem z_slen (C : ZC X G Y nL cc own Ts rm fl) (S0 : zScr X Y b L xs) (hd : decode cc pc = .ok (.arraylength, 1)) (kk : Z l X G Y nL cells slots (pc + 1) lv (.int (iI (L : Int)) :: st) ws) : Z l X G Y nL cells slots pc lv (.ref b :: st) ws := fun H locs ls hP hD hS h => by
  refine va_slen C.1 C.2.1 S0.1 S0.2.1 S0.2.2.1 hS hd ?_
  have e : Int32.ofNat L = iI (L : Int) := (iI_nat L).symm
  rw [e]
  exact kk H locs ls hP hD hS h
/-- two answers that are the same -/
theorem z_same (C : ZC X G Y nL cc own Ts rm fl) {v w : Int} {off : Int} {tgt : Nat} (hd : decode cc pc = .ok (.if_icmp .eq off, 3)) (ht : (pc : Int) + off = (tgt : Int)) (hvw : v = w) (kk : Z l X G Y nL cells slots tgt lv st ws) : Z l X G Y nL cells slots pc lv (.int (iI w) :: .int (iI v) :: st) ws := fun H locs ls hP hD hS h =>
  lv_icmp_eq C.1 C.2.1 hd ht (fun _ => kk H locs ls hP hD hS h) (fun q => absurd (by rw [hvw]) q)
end ZRules8
theorem zx_31 (x : Int32) : ∃ w : Int, 0 ≤ w ∧ w ≤ 31 ∧ x &&& iI 31 = iI w := by
  have hn : (x &&& iI 31).toBitVec.toNat ≤ 31 := by
    rw [Int32.toBitVec_and, BitVec.toNat_and]
    exact Nat.le_trans Nat.and_le_right (by decide)
  refine ⟨((x &&& iI 31).toBitVec.toNat : Int), by omega, by omega, ?_⟩
  rw [iI_nat]
  apply Int32.toBitVec_inj.mp
  rw [nI_bv, BitVec.ofNat_toNat, BitVec.setWidth_eq]
theorem z_end {l : Launch} {p : Program} {e : Env} {s : State} {m : MethodId} {below : List Frame} {meth : Method} {c : Code} {b L : Nat} {xs : Nat → Int32} {G : ZG} (C0 : lw_At p s m meth c b L xs) {cells slots pc : Nat} {lv : List (Nat × Value)} {ws : va_W} (hd : decode cL_law pc = .ok (.ireturn, 1)) (h1 : cells ≤ 600000) (h2 : slots ≤ 7302250) : Z l (p, e, room_1, s, m, #[Value.ref b], below, meth, c) G (fun q => s.heap.size ≤ q, lw_Z below #[Value.ref b] s) 15 cells slots pc lv [.int (iI 1)] ws := fun H locs ls hP hD hS h => by
  obtain ⟨hx, hb, hr, hml, hown, hts, hX, hbl, hlocks, hgv⟩ := id C0
  refine va_forget hS.2.2 (W.widen h1 h2 ?_)
  exact lw_ret hx hb hr hlocks hd
/-! THE SCRIPT HANDED ON: a method that reads it -/
def zPreX (b L : Nat) (xs : Nat → Int32) (G : ZG) (av : List Value) (sz : Nat) : Array Value → State → Prop := va_Pc av (fun U => (U.heap.size = sz ∧ va_P G.1 vwCl [] U.heap ∧ va_K G.1 vwCl (zT G) U ∧ va_D (fun _ => True) [] ∧ (False → zStat (va_A [] sz) U U.heap) ∧ zN U) ∧ va_X b L xs U U.heap ∧ b < sz)
def KtX (l : Launch) (G : ZG) (y : MethodName) (Ts : List Cond) (rm : Room) (b L : Nat) (xs : Nat → Int32) (av : List Value) (K : Option Value → va_W → Prop) : Prop :=
  ∀ sz : Nat, Met l y Ts rm (zPreX b L xs G av sz) (zQ K G.1 (va_A [] sz)) 0 0 (va_A [] sz)
theorem zPreX_blind (b L : Nat) (xs : Nat → Int32) (G : ZG) (av : List Value) (sz : Nat) : FrameBlind (zPreX b L xs G av sz) := by
  intro a U g mk q
  obtain ⟨h1, ⟨h2, h3, h4, h5, h6⟩, hX, hb⟩ := q
  exact ⟨h1, ⟨h2, h3, va_K.moved (u := U) (U := U.calling g mk a) (Vm.Alike.refl U.vm) h4, h5, fun f => f.elim, h6.2⟩, hX.moved (u := U) (U := U.calling g mk a) (Vm.Alike.refl U.vm), hb⟩
set_option maxHeartbeats 4000000 in
theorem KtX.of {l : Launch} {G : ZG} {y : MethodName} {Ts ws' : List Cond} {rm : Room} {b L : Nat} {xs : Nat → Int32} {av : List Value} {K : Option Value → va_W → Prop} {cc : ByteArray} {nL : Nat} {ret : Option FieldType} {own : String}
    (ho : y.cls = own) (hy : plainName y.cls = true) (hw : Ts = Cond.code y cc nL ret :: ws') (hlen : (lg_sl av).length ≤ nL) (hL : L ≤ 260)
    (body : ∀ (X : ZX) (Y : ZY), ZC X G Y nL cc own Ts rm False → ZR X G Y K 0 0 ret → zScr X Y b L xs → Z l X G Y nL 0 0 0 (lv_args 0 av) [] []) : KtX l G y Ts rm b L xs av K := by
  intro sz
  subst ho
  refine Met.ofW (cc := cc) (maxL := nL) (ret := ret) hy hw ?_
  intro p e s m args below meth c s₁ B hml hv
  obtain ⟨rfl, ⟨hsz, hP, hK, hD0, hfl, hnn⟩, hX, hb⟩ := hv
  have hts : ∀ w ∈ Ts, w.before av.toArray s = true := atoms_spec (ws := Ts) B.pre
  subst hsz
  have hD := hD0.self (sz := s.heap.size)
  have C : ZC (p, e, (headSpec Ts rm).room, s, m, av.toArray, below, meth, c) G (va_A [] s.heap.size, MQ below (zQ K G.1 (va_A [] s.heap.size)) av.toArray s 0 0 (va_A [] s.heap.size)) nL cc y.cls Ts rm False :=
    ⟨B.exec, B.bytes, hml, findClass_of_methodNamed B.named, hts, hK, fun q h => Or.inr h, rfl, hfl, hnn⟩
  have R : ZR (p, e, (headSpec Ts rm).room, s, m, av.toArray, below, meth, c) G (va_A [] s.heap.size, MQ below (zQ K G.1 (va_A [] s.heap.size)) av.toArray s 0 0 (va_A [] s.heap.size)) K 0 0 ret := ⟨rfl, B.returns, B.notSynchronized⟩
  have S0 : zScr (p, e, (headSpec Ts rm).room, s, m, av.toArray, below, meth, c) (va_A [] s.heap.size, MQ below (zQ K G.1 (va_A [] s.heap.size)) av.toArray s 0 0 (va_A [] s.heap.size)) b L xs := ⟨hX, hb, fun q => by
    rcases q with ⟨k, e, h⟩ | h
    · simp at h
    · exact absurd hb (Nat.not_lt.mpr h), hL⟩
  have h := body _ _ C R S0 s.heap [] _ hP hD va_S.rf (lv_entry av (n := nL) hlen)
  rw [lg_entry_eq]
  exact h
section ZRules9
variable {l : Launch} {X : ZX} {G : ZG} {Y : ZY} {nL cells slots pc : Nat} {lv lv' : List (Nat × Value)} {st rest : List Value} {ws ws' : va_W} {cc : ByteArray} {own : String} {Ts : List Cond} {rm : Room} {fl : Prop} {b L : Nat} {xs : Nat → Int32}
theorem z_callSX (C : ZC X G Y nL cc own Ts rm fl) (S0 : zScr X Y b L xs) {idx : Nat} (hd : decode cc pc = .ok (.invokestatic idx, 3)) {y : MethodName} {wy : List Cond} {rmy : Room} {As : List Value} {K : Option Value → va_W → Prop} (hM : KtX l G y wy rmy b L xs As K) (hg : GoodIn Ts (va_wsS own idx y wy)) {bytes : ByteArray} {maxL : Nat} {ret : Option FieldType} (hr : zRoom y wy bytes maxL ret rmy rm 0 0 As.length)
    (hst : st = As.reverse ++ rest) (hcat : (rest.map fun v => v.category).sum ≤ 8) (isR : List Nat) (hR : isR.map (fun i => ws[i]?) = ws.map some) (hnR : va_nd isR = true) (hf : cells + 0 ≤ rm.cells ∧ slots + 0 ≤ rm.slots)
    (kk : ∀ (v : Option Value) (w1 : va_W), K v w1 → Z l X G Y nL (cells + 0) (slots + 0) (pc + 3) lv (v.toList ++ rest) (ws ++ w1)) : Z l X G Y nL cells slots pc lv st ws := fun H locs ls hP hD hS h => by
  subst hst
  obtain ⟨⟨ws', hw⟩, ⟨hrc, hrs⟩, hyy, hR2⟩ := hr
  have hrm := C.2.2.2.2.2.2.2.1
  refine z_run (wc := []) As.toArray [] isR rfl hR hnR (fun _ _ => List.not_mem_nil) hP hD hS C.fr h ?_ kk
  refine va_runS (As := As) (rest := rest) ⟨C.1, C.2.1, C.2.2.1, C.ow, C.ts⟩ (hM H.size) (va_cwS As.length C.ts hg hw hrc hrs hyy (by rw [hrm]; exact hR2)) ⟨zPreX_blind _ _ _ _ _ _, ?_⟩ rfl rfl h.1 rfl (lv_room hcat) hd (by rw [hrm]; exact hf)
  intro U hU hW
  have hz := z_pre (wc := []) C [] rfl rfl hP hD hS As (fy := False) (fun h => h.elim) U hU hW
  refine ⟨hz.1, hz.2, ?_, Nat.lt_of_lt_of_le S0.2.1 hS.1⟩
  rw [hU]
  exact (S0.1.kept (hS.2.1 b S0.2.1 S0.2.2.1)).moved hW.alike
end ZRules9
