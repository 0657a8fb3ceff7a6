/-! THE WORLD JUDGEMENT: five rows of 39 ints, made anew -/
section ZRules7
variable {l : Launch} {X : ZX} {G : ZG} {Y : ZY} {nL cells slots pc : Nat} {lv lv' : List (Nat × Value)} {st rest : List Value} {ws ws' : va_W} {cc : ByteArray} {own : String} {Ts : List Cond} {rm : Room} {fl : Prop}
theorem zna_if (r : Nat → Nat) : (fun i => if i < 5 then some (r i) else none) = zna (r 0) (r 1) (r 2) (r 3) (r 4) := funext fun i => match i with
  | 0 => rfl
  | 1 => rfl
  | 2 => rfl
  | 3 => rfl
  | 4 => rfl
  | n + 5 => if_neg (by omega)
theorem zpl5 (r : Nat → Nat) (f : Nat → va_E) (v : va_E) : va_pl ([] ++ (List.range 5).map r) (vr_up f ((List.range 5).map r) v) = [(r 0, v), (r 1, v), (r 2, v), (r 3, v), (r 4, v)] := by
  have h : ∀ i, i < 5 → vr_up f ((List.range 5).map r) v (r i) = v := fun i hi => vr_up_in (List.mem_map.mpr ⟨i, List.mem_range.mpr hi, rfl⟩)
  show [(r 0, vr_up f ((List.range 5).map r) v (r 0)), (r 1, vr_up f ((List.range 5).map r) v (r 1)), (r 2, vr_up f ((List.range 5).map r) v (r 2)), (r 3, vr_up f ((List.range 5).map r) v (r 3)), (r 4, vr_up f ((List.range 5).map r) v (r 4))] = _
  rw [h 0 (by decide), h 1 (by decide), h 2 (by decide), h 3 (by decide), h 4 (by decide)]
theorem z_newM (C : ZC X G Y nL cc own Ts rm fl) {idx : Nat} (hd : decode cc pc = .ok (.multianewarray idx 2, 4)) (hw : Cond.classLink own idx "[[I" ∈ Ts) (hw2 : Cond.arrayClass .int ∈ Ts) (hc : cells + 6 ≤ rm.cells) (hs : slots + 200 ≤ rm.slots) (kk : ∀ q r0 r1 r2 r3 r4 : Nat, Z l X G Y nL (cells + 6) (slots + 200) (pc + 4) lv (.ref q :: st) (ws ++ [cM G q 5 (zna r0 r1 r2 r3 r4), cI G r0 39 (fun _ => 0), cI G r1 39 (fun _ => 0), cI G r2 39 (fun _ => 0), cI G r3 39 (fun _ => 0), cI G r4 39 (fun _ => 0)])) : Z l X G Y nL cells slots pc lv (.int (iI 39) :: .int (iI 5) :: st) ws := fun H locs ls hP hD hS h => by
  have hrm := C.2.2.2.2.2.2.2.1
  have hw' : Cond.classLink own idx ("[" ++ (FieldType.array .int).toString) ∈ Ts := by
    rw [show "[" ++ (FieldType.array .int).toString = "[[I" by decide]
    exact hw
  have hcy : X.2.2.2.1.vm.findClass (FieldType.array .int).toString = some G.2.1 := (C.ka.2 0 _ rfl).2
  refine va_mna (X := ws) (L := []) (f := fun _ => .inl (G.2.1, 0, .inl (fun _ => 0))) (ty := .int) (cy := G.2.1) C.1 C.2.1 C.ow (C.ts _ hw') C.2.2.2.2.2.2.2.2.2.2.2.2.1 (C.ts _ hw2) hcy C.ka (by rw [show va_pl [] (fun _ => (.inl (G.2.1, 0, .inl (fun _ => 0)) : va_E)) = [] from rfl, List.append_nil]; exact hP) (by rw [show va_pl [] (fun _ => (.inl (G.2.1, 0, .inl (fun _ => 0)) : va_E)) = [] from rfl, List.append_nil]; exact hD) hS C.fr (N' := 5) (K' := 39) (z := (39, .inl (fun _ => iI 0))) (by decide) (by decide) (by decide) (by decide) (by decide) (by decide) (by decide) rfl rfl (by rw [hrm]; omega) (by rw [hrm]; omega) (fun c => by
      show ({ cls := c, slots := Array.replicate 39 (defaultValue .int), vm := .none } : Cell) = _
      rw [arrV_new]
      rfl) hd (fun q r cA H1 _ _ hK1 hP1 hD1 hS1 => ?_)
  have e : G.2.2.2.2.2 = cA := zcls (ty := .array .int) ("[" ++ (FieldType.array .int).toString) (fun _ z => z) (k1 := 4) (k2 := 5) hK1 rfl rfl
  subst e
  rw [zpl5, zna_if, List.append_assoc] at hP1 hD1
  exact kk q (r 0) (r 1) (r 2) (r 3) (r 4) H1 locs ls hP1 hD1 hS1 h
end ZRules7
