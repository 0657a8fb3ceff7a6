/-! THE WORLD JUDGEMENT: a table's numbers copied into a row -/
section ZRules6
variable {l : Launch} {X : ZX} {G : ZG} {Y : ZY} {nL cells slots pc : Nat} {lv lv' : List (Nat × Value)} {st rest : List Value} {ws ws' : va_W} {cc : ByteArray} {own : String} {Ts : List Cond} {rm : Room} {fl : Prop}
theorem z_copyT (C : ZC X G Y nL cc own Ts rm fl) {t a1 N idx : Nat} {F F1 : Nat → Int} {n : Int} (hX : va_T .int t N (fun j => .int (iI (F j))) Y.1 X.2.2.2.1 X.2.2.2.1.heap) (hd : decode cc pc = .ok (.invokestatic idx, 3)) (h1 : Cond.methodLink own idx arraycopyName ∈ Ts) (h2 : Cond.native arraycopyName ∈ Ts) (h3 : Cond.static arraycopyName ∈ Ts) (h4 : Cond.initialized "java/lang/System" ∈ Ts) (hf : 1 ≤ rm.frames) (hlo : (st.map fun v => v.category).sum + (nativeFrameWords "java/lang/System" "arraycopy" 5 + 11) ≤ rm.locals) (hn : n = (N : Int)) (hN : N ≤ 100000) (q1 : Nat) (he1 : ws[q1]? = some (cI G a1 N F1)) (hw : ws.set q1 (cI G a1 N F) = ws') (kk : Z l X G Y nL cells slots (pc + 3) lv st ws') : Z l X G Y nL cells slots pc lv (.int (iI n) :: .int (iI 0) :: .ref a1 :: .int (iI 0) :: .ref t :: st) ws := fun H locs ls hP hD hS h => by
  have hrm := C.2.2.2.2.2.2.2.1
  have c0 : (iI 0).toNatClampNeg = 0 := iI_clamp (by omega) (by omega)
  have cn : (iI n).toNatClampNeg = N := by rw [iI_clamp (by omega) (by omega), hn, Int.toNat_natCast]
  have z0 : ¬ iI 0 < 0 := fun q => by have := (iI_lt0 iR_0).mp q; omega
  have zn : ¬ iI n < 0 := fun q => by have := (iI_lt0 (a := n) ⟨by omega, by omega⟩).mp q; omega
  have i0 : (iI 0).toInt = 0 := iI_toInt iR_0
  have inn : (iI n).toInt = (N : Int) := by rw [iI_toInt ⟨by omega, by omega⟩, hn]
  intro T hT XX
  obtain ⟨scr, g1, g2, g3, g4, -, g5, g6⟩ := hX
  have hlt := (Array.getElem?_eq_some_iff.mp g1).1
  have hc0 : H[t]? = some scr := by rw [hS.2.1 t hlt g6]; exact g1
  have hc1 : H[a1]? = some (vp_cell G.2.1 (N, .inl (fun j => iI (F1 j)))) := hP q1 _ he1
  obtain ⟨hs6, k0, hk0, cm0, hkk0⟩ := g2
  obtain ⟨-, k1, hk1, cm1, hkk1⟩ := (C.ka.2 0 _ rfl).1 N (fun j => .int (iI (F1 j)))
  obtain ⟨vm', X', step⟩ := XX.arraycopy C.1 C.ow (C.ts _ h1) (C.ts _ h2) (C.ts _ h3) (C.ts _ h4) (src := t) (dst := a1) (cs := scr) (cd := vp_cell G.2.1 (N, .inl (fun j => iI (F1 j)))) (srcPos := iI 0) (destPos := iI 0) (n := iI n) (by rw [hT]; exact hc0) (by rw [hT]; exact hc1)
    hs6 (fun _ h => by cases h) g3 (fun h => by cases h) hk0 hk1 hkk0 hkk1 (by simp [refKind]) z0 z0 zn
    (by rw [i0, inn]; omega)
    (by rw [i0, inn]; show ¬ _ > ((arrV G.2.1 N (fun j => .int (iI (F1 j)))).slots.size : Int); rw [arrV_size]; omega)
    (fun vm₁ _ i hi => by
      rw [cn] at hi
      have e : scr.slots.getD ((iI 0).toNatClampNeg + i) .null = .int (iI (F (0 + i))) := by
        rw [c0, Array.getD_eq_getD_getElem?, g5 _ (by omega)]
        rfl
      refine ⟨?_, ?_⟩
      · rw [e]
        rfl
      · rw [e]
        exact trivial)
    (g := F0 X.2.2.2.2.1 pc ls (.int (iI n) :: .int (iI 0) :: .ref a1 :: .int (iI 0) :: .ref t :: st)) rfl (by rw [C.2.2.1]; exact h.1) (rest := st) rfl (by rw [C.2.1]; exact hd) (by rw [hrm]; exact hf) (by rw [hrm]; show 2 * 0 + _ + _ ≤ _; omega)
  have e1 : copied scr (vp_cell G.2.1 (N, .inl (fun j => iI (F1 j)))) (iI 0) (iI 0) (iI n) = vp_cell G.2.1 (N, .inl (fun j => iI (F j))) := by
    have h0 := va_copiedX (n0 := N) (n1 := N) (sp := (iI 0).toNatClampNeg) (dp := (iI 0).toNatClampNeg) (n := (iI n).toNatClampNeg) (fun z => .int z) scr G.2.1 (fun j => iI (F j)) (fun j => iI (F1 j)) g5 (by rw [c0, cn]; omega)
    refine Eq.trans h0 ?_
    rw [c0, cn]
    exact vp_same_i G.2.1 (f := va_cpy (fun j => iI (F j)) (fun j => iI (F1 j)) 0 0 N) fun j hj => by rw [pk_cpy_in (Nat.zero_le _) (by omega)]; simp
  rw [e1] at X' step
  have hl : a1 < H.size := (Array.getElem?_eq_some_iff.mp hc1).1
  have hheap : ((T.setVm vm').setCell a1 (vp_cell G.2.1 (N, .inl (fun j => iI (F j))))).heap = H.setIfInBounds a1 (vp_cell G.2.1 (N, .inl (fun j => iI (F j)))) := by rw [← hT]; rfl
  have oq : ∀ q : Nat, q ≠ a1 → (H.setIfInBounds a1 (vp_cell G.2.1 (N, .inl (fun j => iI (F j)))))[q]? = H[q]? := fun q hq => by simp [Array.getElem?_setIfInBounds, Ne.symm hq]
  obtain ⟨t2, b1, b2⟩ := kk (H.setIfInBounds a1 (vp_cell G.2.1 (N, .inl (fun j => iI (F j))))) _ ls (hw ▸ hP.set hD he1 (show (H.setIfInBounds a1 _)[a1]? = some _ by simp [Array.getElem?_setIfInBounds, hl]) oq) (hw ▸ hD.set he1) ⟨by simp; exact hS.1, fun q k1 k2 => by
      rw [oq q (fun e => k2 (by rw [e]; exact hD.2 q1 _ he1))]
      exact hS.2.1 q k1 k2, fun q hq => by
      rcases List.mem_append.mp hq with hh | hh
      · exact hS.2.2 q hh
      · obtain ⟨z, -, hz⟩ := List.mem_map.mp hh
        rw [← hz]
        exact hD.2 q1 _ he1⟩ h _ hheap X'
  exact ⟨t2, step t2 b1, b2⟩
end ZRules6
