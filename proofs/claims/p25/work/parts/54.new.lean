/-! THE WORLD JUDGEMENT: what is made anew -/
section ZRules5
variable {l : Launch} {X : ZX} {G : ZG} {Y : ZY} {nL cells slots pc : Nat} {lv lv' : List (Nat × Value)} {st rest : List Value} {ws ws' : va_W} {cc : ByteArray} {own : String} {Ts : List Cond} {rm : Room} {fl : Prop}
theorem zcls {D : va_G} {cl : List vw_C} {tys : List (ClassId × FieldType)} {U : State} {c1 c2 : ClassId} {ty : FieldType} {k1 k2 : Nat} (nm : String) (hr : ∀ c : ClassId, va_RA U c ty → U.vm.findClass nm = some c) (hK : va_K D cl tys U) (h1 : tys[k1]? = some (c1, ty)) (h2 : tys[k2]? = some (c2, ty)) : c1 = c2 :=
  Option.some.inj ((hr _ (hK.2 k1 _ h1).2).symm.trans (hr _ (hK.2 k2 _ h2).2))
theorem z_newI (C : ZC X G Y nL cc own Ts rm fl) {n : Int} (N : Nat) (hd : decode cc pc = .ok (.newarray .int, 2)) (hw : Cond.arrayClass .int ∈ Ts) (hn : n = (N : Int)) (hN : N ≤ 100000) (hc : cells + 1 ≤ rm.cells) (hs : slots + N ≤ rm.slots) (kk : ∀ q : Nat, Z l X G Y nL (cells + 1) (slots + N) (pc + 2) lv (.ref q :: st) (ws ++ [cI G q N (fun _ => 0)])) : Z l X G Y nL cells slots pc lv (.int (iI n) :: st) ws := fun H locs ls hP hD hS h => by
  have hrm := C.2.2.2.2.2.2.2.1
  refine va_newa C.1 C.2.1 (atype := .int) (C.ts _ hw) (ty := .int) rfl C.ka hP hD hS C.fr (N' := N) (a0 := (N, .inl (fun _ => iI 0))) (fun cA => rfl) (fun q => by have := (iI_lt0 (a := n) ⟨by omega, by omega⟩).mp q; omega) (by rw [iI_clamp (by omega) (by omega), hn, Int.toNat_natCast]) (by show N * 4 ≤ _; omega) (by rw [hrm]; exact hc) (by rw [hrm]; exact hs) hd (fun q cA H1 hK1 hP1 hD1 hS1 => ?_)
  have e : G.2.1 = cA := zcls (ty := .int) ("[" ++ (FieldType.int).toString) (fun _ z => z) (k1 := 0) (k2 := 5) hK1 rfl rfl
  subst e
  exact kk q H1 locs ls hP1 hD1 hS1 h
theorem z_newL (C : ZC X G Y nL cc own Ts rm fl) {n : Int} (N : Nat) (hd : decode cc pc = .ok (.newarray .long, 2)) (hw : Cond.arrayClass .long ∈ Ts) (hn : n = (N : Int)) (hN : N ≤ 100000) (hc : cells + 1 ≤ rm.cells) (hs : slots + N ≤ rm.slots) (kk : ∀ q : Nat, Z l X G Y nL (cells + 1) (slots + N) (pc + 2) lv (.ref q :: st) (ws ++ [cL G q N (fun _ => 0)])) : Z l X G Y nL cells slots pc lv (.int (iI n) :: st) ws := fun H locs ls hP hD hS h => by
  have hrm := C.2.2.2.2.2.2.2.1
  refine va_newa C.1 C.2.1 (atype := .long) (C.ts _ hw) (ty := .long) rfl C.ka hP hD hS C.fr (N' := N) (a0 := (N, .inr (.inl (fun _ => 0)))) (fun cA => rfl) (fun q => by have := (iI_lt0 (a := n) ⟨by omega, by omega⟩).mp q; omega) (by rw [iI_clamp (by omega) (by omega), hn, Int.toNat_natCast]) (by show N * 8 ≤ _; omega) (by rw [hrm]; exact hc) (by rw [hrm]; exact hs) hd (fun q cA H1 hK1 hP1 hD1 hS1 => ?_)
  have e : G.2.2.1 = cA := zcls (ty := .long) ("[" ++ (FieldType.long).toString) (fun _ z => z) (k1 := 1) (k2 := 5) hK1 rfl rfl
  subst e
  exact kk q H1 locs ls hP1 hD1 hS1 h
theorem z_newC (C : ZC X G Y nL cc own Ts rm fl) {n : Int} (N : Nat) (hd : decode cc pc = .ok (.newarray .char, 2)) (hw : Cond.arrayClass .char ∈ Ts) (hn : n = (N : Int)) (hN : N ≤ 100000) (hc : cells + 1 ≤ rm.cells) (hs : slots + N ≤ rm.slots) (kk : ∀ q : Nat, Z l X G Y nL (cells + 1) (slots + N) (pc + 2) lv (.ref q :: st) (ws ++ [cC G q N (fun _ => 0)])) : Z l X G Y nL cells slots pc lv (.int (iI n) :: st) ws := fun H locs ls hP hD hS h => by
  have hrm := C.2.2.2.2.2.2.2.1
  refine va_newa C.1 C.2.1 (atype := .char) (C.ts _ hw) (ty := .char) rfl C.ka hP hD hS C.fr (N' := N) (a0 := (N, .inl (fun _ => iI 0))) (fun cA => rfl) (fun q => by have := (iI_lt0 (a := n) ⟨by omega, by omega⟩).mp q; omega) (by rw [iI_clamp (by omega) (by omega), hn, Int.toNat_natCast]) (by show N * 2 ≤ _; omega) (by rw [hrm]; exact hc) (by rw [hrm]; exact hs) hd (fun q cA H1 hK1 hP1 hD1 hS1 => ?_)
  have e : G.2.2.2.1 = cA := zcls (ty := .char) ("[" ++ (FieldType.char).toString) (fun _ z => z) (k1 := 2) (k2 := 5) hK1 rfl rfl
  subst e
  exact kk q H1 locs ls hP1 hD1 hS1 h
theorem z_newS (C : ZC X G Y nL cc own Ts rm fl) {n : Int} {idx : Nat} (N : Nat) (hd : decode cc pc = .ok (.anewarray idx, 3)) (hw : Cond.classLink own idx "ThirdVotes$State" ∈ Ts) (hn : n = (N : Int)) (hN : N ≤ 100000) (hc : cells + 1 ≤ rm.cells) (hs : slots + N ≤ rm.slots) (kk : ∀ q : Nat, Z l X G Y nL (cells + 1) (slots + N) (pc + 3) lv (.ref q :: st) (ws ++ [cS G q N (fun _ => none)])) : Z l X G Y nL cells slots pc lv (.int (iI n) :: st) ws := fun H locs ls hP hD hS h => by
  have hrm := C.2.2.2.2.2.2.2.1
  refine va_newq C.1 C.2.1 C.ow (C.ts _ hw) C.2.2.2.2.2.2.2.2.2.2.2.2.2 C.ka hP hD hS C.fr (N' := N) (fun q => by have := (iI_lt0 (a := n) ⟨by omega, by omega⟩).mp q; omega) (by rw [iI_clamp (by omega) (by omega), hn, Int.toNat_natCast]) (by omega) (by rw [hrm]; exact hc) (by rw [hrm]; exact hs) hd (fun q cA H1 hK1 hP1 hD1 hS1 => ?_)
  have e : G.2.2.2.2.1 = cA := zcls (ty := .object "ThirdVotes$State") ("[" ++ (FieldType.object "ThirdVotes$State").toString) (fun _ ⟨_, _, _, _, _, z⟩ => z) (k1 := 3) (k2 := 5) hK1 rfl rfl
  subst e
  exact kk q H1 locs ls hP1 hD1 hS1 h
theorem z_new (C : ZC X G Y nL cc own Ts rm fl) {idx ci N : Nat} {Cn : String} {T : u_T} (ty : Nat → FieldType) (fs : List Value) (hd : decode cc pc = .ok (.new idx, 3)) (hci : vwCl[ci]? = some (Cn, T, N)) (hty : ∀ k, k < N → parseFieldDescriptor (T k).2.2.1 = some (ty k)) (hin : ∀ w ∈ u_ws Cn T N, w ∈ Ts) (h1 : Cond.classLink own idx Cn ∈ Ts) (h2 : Cond.instantiable Cn N ∈ Ts) (h3 : Cond.initialized Cn ∈ Ts) (hfs : ∀ j, j < N → defaultValue (ty j) = vp_V fs j) (hc : cells + 1 ≤ rm.cells) (hs : slots + N ≤ rm.slots) (kk : ∀ q : Nat, Z l X G Y nL (cells + 1) (slots + N) (pc + 3) lv (.ref q :: st) (ws ++ [(q, .inr (ci, fs))])) : Z l X G Y nL cells slots pc lv st ws := fun H locs ls hP hD hS h => by
  have hrm := C.2.2.2.2.2.2.2.1
  exact va_new C.1 C.2.1 C.ts hin ty hty C.ow (C.ts _ h1) (C.ts _ h2) (C.ts _ h3) C.ka hP hD hS C.fr hci hfs (by rw [hrm]; exact hc) (by rw [hrm]; exact hs) hd (fun q H1 hP1 hD1 hS1 => kk q H1 locs ls hP1 hD1 hS1 h)
end ZRules5
