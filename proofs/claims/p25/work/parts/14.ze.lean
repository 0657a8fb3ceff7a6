/-! THE WORLD JUDGEMENT: tables that stand in statics -/
section ZRules4
variable {l : Launch} {X : ZX} {G : ZG} {Y : ZY} {nL cells slots pc : Nat} {lv lv' : List (Nat × Value)} {st rest : List Value} {ws ws' : va_W} {cc : ByteArray} {own : String} {Ts : List Cond} {rm : Room} {fl : Prop}
theorem z_getT (C : ZC X G Y nL cc own Ts rm fl) (hfl : fl) {n : String} {idx N : Nat} {F : Nat → Int} (hd : decode cc pc = .ok (.getstatic idx, 3)) (hsel : ∀ (A : Nat → Prop) (U : State) (H : Heap), zStat A U H → zTab n N F A U H) (hw : Cond.fieldLink own idx "ThirdVotes" n "[I" ∈ Ts) (kk : ∀ t : Nat, va_T .int t N (fun j => .int (iI (F j))) Y.1 X.2.2.2.1 X.2.2.2.1.heap → Z l X G Y nL cells slots (pc + 3) lv (.ref t :: st) ws) : Z l X G Y nL cells slots pc lv st ws := fun H locs ls hP hD hS h => by
  obtain ⟨t, hZ, hT⟩ := hsel _ _ _ (C.2.2.2.2.2.2.2.2.1 hfl)
  exact va_gets C.1 C.2.1 hZ hS C.ow (C.ts _ hw) (fun _ h9 => h9) hd (kk t hT H locs ls hP hD hS h)
theorem z_getTN (C : ZC X G Y nL cc own Ts rm fl) (hfl : fl) {n host : String} {idx N : Nat} {F : Nat → Int} (hd : decode cc pc = .ok (.getstatic idx, 3)) (hsel : ∀ (A : Nat → Prop) (U : State) (H : Heap), zStat A U H → zTab n N F A U H) (hw : zN X.2.2.2.1 → va_Nw (.fieldLinkNest own idx "ThirdVotes" n "[I" host) X.2.2.2.1) (kk : ∀ t : Nat, va_T .int t N (fun j => .int (iI (F j))) Y.1 X.2.2.2.1 X.2.2.2.1.heap → Z l X G Y nL cells slots (pc + 3) lv (.ref t :: st) ws) : Z l X G Y nL cells slots pc lv st ws := fun H locs ls hP hD hS h => by
  obtain ⟨t, hZ, hT⟩ := hsel _ _ _ (C.2.2.2.2.2.2.2.2.1 hfl)
  exact va_getsN C.1 C.2.1 hZ hS C.ow (va_Nw.use rfl (hw C.2.2.2.2.2.2.2.2.2)) (fun _ h9 => h9) hd (kk t hT H locs ls hP hD hS h)
theorem z_tld (C : ZC X G Y nL cc own Ts rm fl) {t N : Nat} {F : Nat → Int} {z : Int} (hT : va_T .int t N (fun j => .int (iI (F j))) Y.1 X.2.2.2.1 X.2.2.2.1.heap) (hd : decode cc pc = .ok (.iaload, 1)) (j : Nat) (hj : z = (j : Int)) (hlt : j < N) (hn : N ≤ 100000) (kk : Z l X G Y nL cells slots (pc + 1) lv (.int (iI (F j)) :: st) ws) : Z l X G Y nL cells slots pc lv (.int (iI z) :: .ref t :: st) ws := fun H locs ls hP hD hS h =>
  va_ti C.1 C.2.1 hT hS (iI_in (by omega) (by omega) (by omega)) (v := .int (iI (F j))) (by rw [iI_clamp (by omega) (by omega), show z.toNat = j by omega]) hd (kk H locs ls hP hD hS h)
theorem zStat0 (A : Nat → Prop) (U : State) (H : Heap) (h : zStat A U H) : zTab "FIRST_VALUES" 5 zF0 A U H := h.1
theorem zStat1 (A : Nat → Prop) (U : State) (H : Heap) (h : zStat A U H) : zTab "LEAST_VALUES" 5 zF1 A U H := h.2.1
theorem zStat2 (A : Nat → Prop) (U : State) (H : Heap) (h : zStat A U H) : zTab "GREATEST_VALUES" 5 zF2 A U H := h.2.2
end ZRules4
