/-! ===== BEGIN words of one list among another's, by their places ===== -/
theorem goodIn_r {big : List Cond} (ws : List Cond) (ps : List Nat) (hp : ws = ps.filterMap (fun i => big[i]?)) (h : ws.all goodWord = true) : GoodIn big ws := by
  intro w hw
  have h1 := List.all_eq_true.mp h w hw
  rw [hp] at hw
  obtain ⟨i, -, hi⟩ := List.mem_filterMap.mp hw
  have hm : w ∈ big := by first | exact List.mem_of_getElem? hi | exact List.getElem?_mem hi
  exact ⟨hm, good_of_word h1⟩
theorem goodIn_app {big a b : List Cond} (ha : GoodIn big a) (hb : GoodIn big b) : GoodIn big (a ++ b) := fun w h => (List.mem_append.mp h).elim (ha w) (hb w)
theorem goodIn_ca {big a b : List Cond} {c : Cond} (ha : GoodIn big (c :: a)) (hb : GoodIn big b) : GoodIn big (c :: (a ++ b)) := fun w h => (List.mem_cons.mp h).elim (fun e => ha w (List.mem_cons.mpr (Or.inl e))) (fun h => (List.mem_append.mp h).elim (fun h => ha w (List.mem_cons.mpr (Or.inr h))) (hb w))
theorem goodIn_sub {big ws : List Cond} (hm : ∀ w ∈ ws, w ∈ big) (h : ws.all goodWord = true) : GoodIn big ws := fun w hw => ⟨hm w hw, good_of_word (List.all_eq_true.mp h w hw)⟩
/-! ===== END ===== -/

/-! ===== BEGIN new T[n][m]: the outer array a place, the inner ones among the pooled ===== -/
/-- f, but v at every address of l -/
def vr_up {α : Type} (f : Nat → α) (l : List Nat) (v : α) : Nat → α := fun a => if a ∈ l then v else f a
theorem vr_up_in {α : Type} {f : Nat → α} {l : List Nat} {v : α} {a : Nat} (h : a ∈ l) : vr_up f l v a = v := if_pos h
theorem vr_up_ne {α : Type} {f : Nat → α} {l : List Nat} {v : α} {a : Nat} (h : a ∉ l) : vr_up f l v a = f a := if_neg h
theorem vr_rows {L l : List Nat} {f : Nat → va_E} {e : va_E} (h : ∀ a, a ∈ l → a ∉ L) : va_pl L f ++ l.map (fun a => (a, e)) = va_pl (L ++ l) (vr_up f l e) := by
  unfold va_pl
  rw [List.map_append]
  congr 1
  · apply List.map_congr_left
    intro a ha
    rw [vr_up_ne (fun q => h a q ha)]
  · apply List.map_congr_left
    intro a ha
    rw [vr_up_in ha]
theorem vr_lay {X rows : va_W} {x : Nat × va_E} {pl : va_W} {D : va_G} {cl : List vw_C} {H : Heap} (hP : va_P D cl (((X ++ pl) ++ [x]) ++ rows) H) : va_P D cl ((X ++ [x]) ++ (pl ++ rows)) H := by
  rw [List.append_assoc (X ++ pl)] at hP
  have h := va_P.swap hP
  rw [← List.append_assoc X] at h
  have h2 := va_P.swap h
  rw [List.append_assoc (X ++ [x])] at h2
  exact h2
theorem vr_layD {X rows : va_W} {x : Nat × va_E} {pl : va_W} {A : Nat → Prop} (hD : va_D A (((X ++ pl) ++ [x]) ++ rows)) : va_D A ((X ++ [x]) ++ (pl ++ rows)) := by
  rw [List.append_assoc (X ++ pl)] at hD
  have h := va_D.swap hD
  rw [← List.append_assoc X] at h
  have h2 := va_D.swap h
  rw [List.append_assoc (X ++ [x])] at h2
  exact h2
theorem vr_outer (c : ClassId) (N h0 : Nat) : ∀ i : Nat, Jvm.Free.Multi.outerC c N h0 i = arrV c N (fun j => va_rf (if j < i then some (h0 + 1 + j) else none))
  | 0 => by
    show ({ cls := c, slots := Array.replicate N .null, vm := .none } : Cell) = _
    rw [arrV_new]
    refine congrArg (arrV c N) (funext fun j => ?_)
    simp [va_rf]
  | i + 1 => by
    show (Jvm.Free.Multi.outerC c N h0 i).setSlot i (.ref (h0 + 1 + i)) = _
    rw [vr_outer c N h0 i, arrV_store]
    refine congrArg (arrV c N) (funext fun j => ?_)
    by_cases e : j = i
    · subst e
      simp [updV, va_rf]
    · by_cases h : j < i
      · simp [updV, e, h, Nat.lt_succ_of_lt h]
      · simp [updV, e, h, show ¬ j < i + 1 by omega]
section VGM
variable {p : Program} {l : Launch} {e : Env} {R : Room} {s : State} {m : MethodId} {args : Array Value} {below : List Frame} {meth : Method} {c : Code} {H : Heap} {locs : List Loc} {cells slots : Nat} {Q : State → Prop}
variable {cc : ByteArray} {pc : Nat} {ls : Array Slot} {rest : List Value} {D : va_G} {cl : List vw_C} {A : Nat → Prop} {a : Nat} {tys : List (ClassId × FieldType)} {ws : va_W} {H0 : Heap}
theorem va_mna {X : va_W} {L : List Nat} {f : Nat → va_E} {cc : ByteArray} (hexec : p.tables.exec = Jvm.exec) (hb : c.code = cc) {own : String} {index : Nat} {ty : FieldType} {cy : ClassId} (hown : s.vm.findClass own = some m.cls) (hclink : (Cond.classLink own index ("[" ++ (FieldType.array ty).toString)).before args s = true) (hover : va_AOA ty s) (harr : (Cond.arrayClass ty).before args s = true) (hcy : s.vm.findClass (FieldType.array ty).toString = some cy)
    (hK : va_K D cl tys s) (hP : va_P D cl (X ++ va_pl L f) H) (hD : va_D A (X ++ va_pl L f)) (hS : va_S A H0 H locs) (hA : ∀ q, H0.size ≤ q → A q) {n k : Int32} {N' K' : Nat} {z : vp_A} (hn : ¬ n < 0) (hk : ¬ k < 0) (hN : n.toNatClampNeg = N') (hM : k.toNatClampNeg = K')
    (hb1 : N' * 4 ≤ 536870912) (hb2 : K' * componentBytes ty ≤ 536870912) (hb3 : K' ≤ 536870912) (hdf : fits ty (defaultValue ty) = true) (hdd : (defaultValue ty).isDefault = true) (hcells : cells + (1 + N') ≤ R.cells) (hslots : slots + (N' + N' * K') ≤ R.slots) (hz : ∀ c : ClassId, Jvm.Free.Multi.innerC c K' (defaultValue ty) = vp_cell c z) (hdg : decode cc pc = .ok (.multianewarray index 2, 4))
    (kk : ∀ (q : Nat) (r : Nat → Nat) (cA : ClassId) (H1 : Heap), (∀ i j : Nat, i < N' → j < N' → r i = r j → i = j) → (∀ i : Nat, i < N' → r i ∉ L) → va_K D cl (tys ++ [(cA, .array ty)]) s →
      va_P D cl ((X ++ [(q, .inl (cA, N', .inr (.inr (.inr (.inr (fun i => if i < N' then some (r i) else none))))))]) ++ va_pl (L ++ (List.range N').map r) (vr_up f ((List.range N').map r) (.inl (cy, z)))) H1 → va_D A ((X ++ [(q, .inl (cA, N', .inr (.inr (.inr (.inr (fun i => if i < N' then some (r i) else none))))))]) ++ va_pl (L ++ (List.range N').map r) (vr_up f ((List.range N').map r) (.inl (cy, z)))) → va_S A H0 H1 locs →
      W p l e R s m args below meth c H1 locs (cells + 1 + N') (slots + N' + N' * K') Q (F0 m (pc + 4) ls (.ref q :: rest))) : W p l e R s m args below meth c H locs cells slots Q (F0 m pc ls (.int k :: .int n :: rest)) := by
  subst hN
  subst hM
  intro T hT Xs
  obtain ⟨vm₁, cA, comp, -, fA, fC, hO, -, X', step⟩ := Xs.multianewarray2F hexec hown hclink (va_AOA.use hover) harr (g := F0 m pc ls (.int k :: .int n :: rest)) rfl (by rw [hb]; exact hdg) rfl hn hk hb1 hb2 hb3 hdf hdd hcells hslots
  have ec : some cy = some comp := hcy.symm.trans fC
  cases ec
  generalize hF : Jvm.Free.Multi.fill (T.setVm vm₁) cA cy n.toNatClampNeg k.toNatClampNeg (defaultValue ty) n.toNatClampNeg = F at X' step
  have hTh : (T.setVm vm₁).heap = H := hT
  obtain ⟨f1, f2, -, -⟩ := Jvm.Free.Multi.fill_facts (T.setVm vm₁) cA cy n.toNatClampNeg k.toNatClampNeg (defaultValue ty) n.toNatClampNeg
  rw [hF, hTh] at f1 f2
  have hold : ∀ x : Nat, x < H.size → F.heap[x]? = H[x]? := fun x hx => by
    have := Jvm.Free.Multi.fill_old (T.setVm vm₁) cA cy n.toNatClampNeg k.toNatClampNeg (defaultValue ty) (a := x) (by rw [hTh]; exact hx) n.toNatClampNeg
    rw [hF, hTh] at this
    exact this
  have hrow : ∀ j : Nat, j < n.toNatClampNeg → F.heap[H.size + 1 + j]? = some (vp_cell cy z) := fun j hj => by
    have := Jvm.Free.Multi.fill_inner (T.setVm vm₁) cA cy n.toNatClampNeg k.toNatClampNeg (defaultValue ty) n.toNatClampNeg j hj
    rw [hF, hTh, hz] at this
    exact this
  have hout : Jvm.Free.Multi.outerC cA n.toNatClampNeg H.size n.toNatClampNeg = vp_cell cA (n.toNatClampNeg, .inr (.inr (.inr (.inr (fun i => if i < n.toNatClampNeg then some (H.size + 1 + i) else none))))) := by
    rw [vp_cell_q]
    exact vr_outer cA n.toNatClampNeg H.size n.toNatClampNeg
  rw [hout] at f2
  have hlt : ∀ a, a ∈ L → a < H.size := fun a ha => by
    obtain ⟨k9, hk9⟩ := va_pl_get (X := X) (f := f) ha
    exact (hP k9 _ hk9).lt
  have hnl : ∀ i : Nat, i < n.toNatClampNeg → H.size + 1 + i ∉ L := fun i _ h => by
    have := hlt _ h
    omega
  have hnm : ∀ a, a ∈ (List.range n.toNatClampNeg).map (fun i => H.size + 1 + i) → a ∉ L := fun a ha h => by
    obtain ⟨i, -, rfl⟩ := List.mem_map.mp ha
    have := hlt _ h
    omega
  have hP0 : va_P D cl (X ++ va_pl L f) F.heap := hP.kept (fun k9 x hx => hold x.1 ((hP k9 x hx).lt))
  have hP1 : va_P D cl ((X ++ va_pl L f) ++ [(H.size, .inl (cA, n.toNatClampNeg, .inr (.inr (.inr (.inr (fun i => if i < n.toNatClampNeg then some (H.size + 1 + i) else none))))))]) F.heap := hP0.app (fun k9 x hx => by
    have h0 : k9 < 1 := (List.getElem?_eq_some_iff.mp hx).1
    rw [show k9 = 0 by omega] at hx
    cases hx
    exact f2)
  have hP2 : va_P D cl (((X ++ va_pl L f) ++ [(H.size, .inl (cA, n.toNatClampNeg, .inr (.inr (.inr (.inr (fun i => if i < n.toNatClampNeg then some (H.size + 1 + i) else none))))))]) ++ ((List.range n.toNatClampNeg).map (fun i => H.size + 1 + i)).map (fun a => (a, .inl (cy, z)))) F.heap := hP1.app (fun k9 x hx => by
    obtain ⟨a, ha, rfl⟩ := List.mem_map.mp (List.mem_of_getElem? hx)
    obtain ⟨i, hi, rfl⟩ := List.mem_map.mp ha
    exact hrow i (List.mem_range.mp hi))
  have hD2 : va_D A (((X ++ va_pl L f) ++ [(H.size, .inl (cA, n.toNatClampNeg, .inr (.inr (.inr (.inr (fun i => if i < n.toNatClampNeg then some (H.size + 1 + i) else none))))))]) ++ ((List.range n.toNatClampNeg).map (fun i => H.size + 1 + i)).map (fun a => (a, .inl (cy, z)))) := by
    have hD1 := hD.push (e := .inl (cA, n.toNatClampNeg, .inr (.inr (.inr (.inr (fun i => if i < n.toNatClampNeg then some (H.size + 1 + i) else none)))))) hP rfl (hA _ hS.1)
    generalize hW1 : (X ++ va_pl L f) ++ [(H.size, .inl (cA, n.toNatClampNeg, .inr (.inr (.inr (.inr (fun i => if i < n.toNatClampNeg then some (H.size + 1 + i) else none))))))] = W1 at hD1 hP1 ⊢
    have hle : ∀ (k9 : Nat) (x : Nat × va_E), W1[k9]? = some x → x.1 ≤ H.size := fun k9 x hx => by
      rw [← hW1] at hx
      by_cases hl : k9 < (X ++ va_pl L f).length
      · rw [List.getElem?_append_left hl] at hx
        exact Nat.le_of_lt ((hP k9 x hx).lt)
      · rw [List.getElem?_append_right (by omega)] at hx
        have h0 : k9 - (X ++ va_pl L f).length < 1 := (List.getElem?_eq_some_iff.mp hx).1
        rw [show k9 - (X ++ va_pl L f).length = 0 by omega] at hx
        cases hx
        exact Nat.le_refl _
    have hr : ∀ (k9 : Nat) (x : Nat × va_E), (((List.range n.toNatClampNeg).map (fun i => H.size + 1 + i)).map (fun a => ((a, .inl (cy, z)) : Nat × va_E)))[k9]? = some x → x.1 = H.size + 1 + k9 := fun k9 x hx => by
      rw [List.getElem?_map, List.getElem?_map] at hx
      by_cases h9 : k9 < n.toNatClampNeg
      · rw [List.getElem?_range h9] at hx
        cases hx
        rfl
      · have hn0 : (List.range n.toNatClampNeg)[k9]? = none := List.getElem?_eq_none (by rw [List.length_range]; omega)
        rw [hn0] at hx
        cases hx
    refine ⟨fun i j x y hi hj hxy => ?_, fun k9 x hx => ?_⟩
    · by_cases h1 : i < W1.length <;> by_cases h2 : j < W1.length
      · rw [List.getElem?_append_left h1] at hi
        rw [List.getElem?_append_left h2] at hj
        exact hD1.1 i j x y hi hj hxy
      · rw [List.getElem?_append_left h1] at hi
        rw [List.getElem?_append_right (by omega)] at hj
        have := hle _ _ hi
        have := hr _ _ hj
        omega
      · rw [List.getElem?_append_right (by omega)] at hi
        rw [List.getElem?_append_left h2] at hj
        have := hle _ _ hj
        have := hr _ _ hi
        omega
      · rw [List.getElem?_append_right (by omega)] at hi hj
        have := hr _ _ hi
        have := hr _ _ hj
        omega
    · by_cases h1 : k9 < W1.length
      · rw [List.getElem?_append_left h1] at hx
        exact hD1.2 k9 x hx
      · rw [List.getElem?_append_right (by omega)] at hx
        have := hr _ _ hx
        exact hA _ (by have := hS.1; omega)
  have hAr : ArrOfT s cA (.array ty) := fun N9 z9 => by
    obtain ⟨-, k9, hk9, cm9, hkk9⟩ := (hO 0 0 0).1
    exact ⟨(fun q hq => by cases hq), k9, hk9, cm9, hkk9⟩
  have hK2 : va_K D cl (tys ++ [(cA, .array ty)]) s := ⟨hK.1, fun k9 x hx => by
    by_cases hl : k9 < tys.length
    · rw [List.getElem?_append_left hl] at hx
      exact hK.2 k9 x hx
    · rw [List.getElem?_append_right (by omega)] at hx
      have h0 : k9 - tys.length < 1 := (List.getElem?_eq_some_iff.mp hx).1
      rw [show k9 - tys.length = 0 by omega] at hx
      cases hx
      exact ⟨hAr, fA⟩⟩
  obtain ⟨t, a1, b1⟩ := kk H.size (fun i => H.size + 1 + i) cA F.heap (fun i j _ _ h => by have h9 : H.size + 1 + i = H.size + 1 + j := h; omega) hnl hK2 (by rw [← vr_rows hnm]; exact vr_lay hP2) (by rw [← vr_rows hnm]; exact vr_layD hD2) ⟨by rw [f1]; have := hS.1; omega, fun x h1 h2 => (hold x (Nat.lt_of_lt_of_le h1 hS.1)).trans (hS.2.1 x h1 h2), hS.2.2⟩ F rfl X'
  refine ⟨t, step t ?_, b1⟩
  have e : T.heap.size = H.size := by rw [hT]
  rw [e]
  exact a1
end VGM
/-! ===== END ===== -/

/-! ===== BEGIN printed: names, fields, word lists, decode rows ===== -/
def RX0 : String := "ThirdVotes$History"
def TX0 : u_T := fun k => match k with
  | 0 => ("ThirdVotes$History", "states", "[LThirdVotes$State;", true)
  | 1 => ("ThirdVotes$History", "snapshot", "LThirdVotes$State;", true)
  | 2 => ("ThirdVotes$History", "size", "I", false)
  | _ => ("ThirdVotes$History", "hasSnapshot", "Z", false)
def tyX0 : Nat → FieldType := fun k => match k with
  | 0 => .array (.object "ThirdVotes$State")
  | 1 => .object "ThirdVotes$State"
  | 2 => .int
  | _ => .boolean
abbrev wsX00 : List Cond := u_ws RX0 TX0 4
theorem nmX0 : ∀ a, a < 4 → ∀ b, b < 4 → a ≠ b → (TX0 a).2.1 ≠ (TX0 b).2.1 := by decide +kernel
theorem tyX0_ok : ∀ k, k < 4 → parseFieldDescriptor (TX0 k).2.2.1 = some (tyX0 k) := by decide +kernel
abbrev cX0_init : ByteArray := prog_2_method_1_code
def yX0_init : MethodName := ⟨RX0, "<init>", "()V"⟩
abbrev cX0_size : ByteArray := prog_2_method_2_code
def yX0_size : MethodName := ⟨RX0, "size", "()I"⟩
abbrev cX0_hasSnapshot : ByteArray := prog_2_method_3_code
def yX0_hasSnapshot : MethodName := ⟨RX0, "hasSnapshot", "()Z"⟩
abbrev cX0_remember : ByteArray := prog_2_method_4_code
def yX0_remember : MethodName := ⟨RX0, "remember", "(LThirdVotes$State;)V"⟩
abbrev cX0_takeBack : ByteArray := prog_2_method_5_code
def yX0_takeBack : MethodName := ⟨RX0, "takeBack", "(LThirdVotes$State;)Z"⟩
abbrev cX0_takeSnapshot : ByteArray := prog_2_method_6_code
def yX0_takeSnapshot : MethodName := ⟨RX0, "takeSnapshot", "(LThirdVotes$State;)V"⟩
abbrev cX0_copySnapshotTo : ByteArray := prog_2_method_7_code
def yX0_copySnapshotTo : MethodName := ⟨RX0, "copySnapshotTo", "(LThirdVotes$State;)V"⟩
abbrev cX0_dropOldest : ByteArray := prog_2_method_8_code
def yX0_dropOldest : MethodName := ⟨RX0, "dropOldest", "()V"⟩
def RX1 : String := "ThirdVotes$Receiver"
def TX1 : u_T := fun k => match k with
  | 0 => ("ThirdVotes$Receiver", "notes", "[[I", true)
  | 1 => ("ThirdVotes$Receiver", "count", "I", false)
  | 2 => ("ThirdVotes$Receiver", "falseStarts", "I", false)
  | _ => ("ThirdVotes$Receiver", "doubtfulBits", "I", false)
def tyX1 : Nat → FieldType := fun k => match k with
  | 0 => .array (.array .int)
  | 1 => .int
  | 2 => .int
  | _ => .int
abbrev wsX10 : List Cond := u_ws RX1 TX1 4
theorem nmX1 : ∀ a, a < 4 → ∀ b, b < 4 → a ≠ b → (TX1 a).2.1 ≠ (TX1 b).2.1 := by decide +kernel
theorem tyX1_ok : ∀ k, k < 4 → parseFieldDescriptor (TX1 k).2.2.1 = some (tyX1 k) := by decide +kernel
abbrev cX1_init : ByteArray := prog_3_method_1_code
def yX1_init : MethodName := ⟨RX1, "<init>", "()V"⟩
abbrev cX1_receive : ByteArray := prog_3_method_2_code
def yX1_receive : MethodName := ⟨RX1, "receive", "(LThirdVotes$State;I)V"⟩
abbrev cX1_count : ByteArray := prog_3_method_3_code
def yX1_count : MethodName := ⟨RX1, "count", "()I"⟩
abbrev cX1_falseStarts : ByteArray := prog_3_method_4_code
def yX1_falseStarts : MethodName := ⟨RX1, "falseStarts", "()I"⟩
abbrev cX1_note : ByteArray := prog_3_method_5_code
def yX1_note : MethodName := ⟨RX1, "note", "(II)I"⟩
abbrev cX1_countKind : ByteArray := prog_3_method_6_code
def yX1_countKind : MethodName := ⟨RX1, "countKind", "(I)I"⟩
abbrev cX1_countGoodWord : ByteArray := prog_3_method_7_code
def yX1_countGoodWord : MethodName := ⟨RX1, "countGoodWord", "(I)I"⟩
abbrev cX1_countDoubtful : ByteArray := prog_3_method_8_code
def yX1_countDoubtful : MethodName := ⟨RX1, "countDoubtful", "()I"⟩
abbrev cX1_isAllWell : ByteArray := prog_3_method_9_code
def yX1_isAllWell : MethodName := ⟨RX1, "isAllWell", "(LThirdVotes$State;)Z"⟩
abbrev cX1_isGoodWord : ByteArray := prog_3_method_10_code
def yX1_isGoodWord : MethodName := ⟨RX1, "isGoodWord", "(II)Z"⟩
abbrev cX1_tellFrom : ByteArray := prog_3_method_11_code
def yX1_tellFrom : MethodName := ⟨RX1, "tellFrom", "(LThirdVotes$State;II)I"⟩
abbrev cX1_tellBit : ByteArray := prog_3_method_12_code
def yX1_tellBit : MethodName := ⟨RX1, "tellBit", "(LThirdVotes$State;II)I"⟩
abbrev cX1_thirdLook : ByteArray := prog_3_method_13_code
def yX1_thirdLook : MethodName := ⟨RX1, "thirdLook", "(II)I"⟩
abbrev cX1_wordIn : ByteArray := prog_3_method_14_code
def yX1_wordIn : MethodName := ⟨RX1, "wordIn", "(I)I"⟩
abbrev cX1_kindOf : ByteArray := prog_3_method_15_code
def yX1_kindOf : MethodName := ⟨RX1, "kindOf", "(III)I"⟩
abbrev cX1_add : ByteArray := prog_3_method_16_code
def yX1_add : MethodName := ⟨RX1, "add", "(IIII)V"⟩
def RX2 : String := "ThirdVotes$State"
def TX2 : u_T := fun k => match k with
  | 0 => ("ThirdVotes$State", "levels", "[J", true)
  | 1 => ("ThirdVotes$State", "words", "[I", true)
  | 2 => ("ThirdVotes$State", "settings", "[I", true)
  | 3 => ("ThirdVotes$State", "end", "I", false)
  | _ => ("ThirdVotes$State", "wordCount", "I", false)
def tyX2 : Nat → FieldType := fun k => match k with
  | 0 => .array .long
  | 1 => .array .int
  | 2 => .array .int
  | 3 => .int
  | _ => .int
abbrev wsX20 : List Cond := u_ws RX2 TX2 5
theorem nmX2 : ∀ a, a < 5 → ∀ b, b < 5 → a ≠ b → (TX2 a).2.1 ≠ (TX2 b).2.1 := by decide +kernel
theorem tyX2_ok : ∀ k, k < 5 → parseFieldDescriptor (TX2 k).2.2.1 = some (tyX2 k) := by decide +kernel
abbrev cX2_init : ByteArray := prog_4_method_1_code
def yX2_init : MethodName := ⟨RX2, "<init>", "()V"⟩
abbrev cX2_copyFrom : ByteArray := prog_4_method_2_code
def yX2_copyFrom : MethodName := ⟨RX2, "copyFrom", "(LThirdVotes$State;)V"⟩
abbrev cX2_end : ByteArray := prog_4_method_3_code
def yX2_end : MethodName := ⟨RX2, "end", "()I"⟩
abbrev cX2_wordCount : ByteArray := prog_4_method_4_code
def yX2_wordCount : MethodName := ⟨RX2, "wordCount", "()I"⟩
abbrev cX2_setting : ByteArray := prog_4_method_5_code
def yX2_setting : MethodName := ⟨RX2, "setting", "(I)I"⟩
abbrev cX2_wordOfRank : ByteArray := prog_4_method_6_code
def yX2_wordOfRank : MethodName := ⟨RX2, "wordOfRank", "(I)I"⟩
abbrev cX2_change : ByteArray := prog_4_method_7_code
def yX2_change : MethodName := ⟨RX2, "change", "(II)V"⟩
abbrev cX2_clearWire : ByteArray := prog_4_method_8_code
def yX2_clearWire : MethodName := ⟨RX2, "clearWire", "()V"⟩
abbrev cX2_hasRoom : ByteArray := prog_4_method_9_code
def yX2_hasRoom : MethodName := ⟨RX2, "hasRoom", "(I)Z"⟩
abbrev cX2_ticksOfWord : ByteArray := prog_4_method_10_code
def yX2_ticksOfWord : MethodName := ⟨RX2, "ticksOfWord", "()I"⟩
abbrev cX2_addWord : ByteArray := prog_4_method_11_code
def yX2_addWord : MethodName := ⟨RX2, "addWord", "(I)Z"⟩
abbrev cX2_addStretch : ByteArray := prog_4_method_12_code
def yX2_addStretch : MethodName := ⟨RX2, "addStretch", "(II)Z"⟩
abbrev cX2_flip : ByteArray := prog_4_method_13_code
def yX2_flip : MethodName := ⟨RX2, "flip", "(II)I"⟩
abbrev cX2_levelAt : ByteArray := prog_4_method_14_code
def yX2_levelAt : MethodName := ⟨RX2, "levelAt", "(I)I"⟩
abbrev cX2_nextFall : ByteArray := prog_4_method_15_code
def yX2_nextFall : MethodName := ⟨RX2, "nextFall", "(I)I"⟩
abbrev cX2_fallOfRank : ByteArray := prog_4_method_16_code
def yX2_fallOfRank : MethodName := ⟨RX2, "fallOfRank", "(I)I"⟩
abbrev cX2_countFalls : ByteArray := prog_4_method_17_code
def yX2_countFalls : MethodName := ⟨RX2, "countFalls", "()I"⟩
abbrev cX2_countLowTicks : ByteArray := prog_4_method_18_code
def yX2_countLowTicks : MethodName := ⟨RX2, "countLowTicks", "()I"⟩
abbrev cX2_learnedLength : ByteArray := prog_4_method_19_code
def yX2_learnedLength : MethodName := ⟨RX2, "learnedLength", "()I"⟩
abbrev cX2_bitsOfWord : ByteArray := prog_4_method_20_code
def yX2_bitsOfWord : MethodName := ⟨RX2, "bitsOfWord", "()I"⟩
abbrev cX2_bitsOf : ByteArray := prog_4_method_21_code
def yX2_bitsOf : MethodName := ⟨RX2, "bitsOf", "(I)I"⟩
abbrev cX2_putLow : ByteArray := prog_4_method_22_code
def yX2_putLow : MethodName := ⟨RX2, "putLow", "(II)V"⟩
abbrev cX2_behindRow : ByteArray := prog_4_method_23_code
def yX2_behindRow : MethodName := ⟨RX2, "behindRow", "(I)I"⟩
abbrev cX2_fallsIn : ByteArray := prog_4_method_24_code
def yX2_fallsIn : MethodName := ⟨RX2, "fallsIn", "(I)J"⟩
def RX3 : String := "ThirdVotes$Text"
def TX3 : u_T := fun k => match k with
  | 0 => ("ThirdVotes$Text", "characters", "[C", true)
  | 1 => ("ThirdVotes$Text", "repeatFrom", "[I", true)
  | 2 => ("ThirdVotes$Text", "repeatsLeft", "[I", true)
  | _ => ("ThirdVotes$Text", "length", "I", false)
def tyX3 : Nat → FieldType := fun k => match k with
  | 0 => .array .char
  | 1 => .array .int
  | 2 => .array .int
  | _ => .int
abbrev wsX30 : List Cond := u_ws RX3 TX3 4
theorem nmX3 : ∀ a, a < 4 → ∀ b, b < 4 → a ≠ b → (TX3 a).2.1 ≠ (TX3 b).2.1 := by decide +kernel
theorem tyX3_ok : ∀ k, k < 4 → parseFieldDescriptor (TX3 k).2.2.1 = some (tyX3 k) := by decide +kernel
abbrev cX3_init : ByteArray := prog_5_method_1_code
def yX3_init : MethodName := ⟨RX3, "<init>", "()V"⟩
abbrev cX3_length : ByteArray := prog_5_method_2_code
def yX3_length : MethodName := ⟨RX3, "length", "()I"⟩
abbrev cX3_append : ByteArray := prog_5_method_3_code
def yX3_append : MethodName := ⟨RX3, "append", "(C)Z"⟩
abbrev cX3_empty : ByteArray := prog_5_method_4_code
def yX3_empty : MethodName := ⟨RX3, "empty", "()V"⟩
abbrev cX3_fault : ByteArray := prog_5_method_5_code
def yX3_fault : MethodName := ⟨RX3, "fault", "()I"⟩
abbrev cX3_sendTo : ByteArray := prog_5_method_6_code
def yX3_sendTo : MethodName := ⟨RX3, "sendTo", "(LThirdVotes$State;)Z"⟩
abbrev cX3_characterAt : ByteArray := prog_5_method_7_code
def yX3_characterAt : MethodName := ⟨RX3, "characterAt", "(I)C"⟩
abbrev cX3_placeBehind : ByteArray := prog_5_method_8_code
def yX3_placeBehind : MethodName := ⟨RX3, "placeBehind", "(ICI)I"⟩
abbrev cX3_placeInItem : ByteArray := prog_5_method_9_code
def yX3_placeInItem : MethodName := ⟨RX3, "placeInItem", "(C)I"⟩
abbrev cX3_placeBehindDigit : ByteArray := prog_5_method_10_code
def yX3_placeBehindDigit : MethodName := ⟨RX3, "placeBehindDigit", "(C)I"⟩
abbrev cX3_placeBehindItem : ByteArray := prog_5_method_11_code
def yX3_placeBehindItem : MethodName := ⟨RX3, "placeBehindItem", "(CI)I"⟩
abbrev cX3_isRepeatDue : ByteArray := prog_5_method_12_code
def yX3_isRepeatDue : MethodName := ⟨RX3, "isRepeatDue", "(I)Z"⟩
abbrev cX3_beginRepeat : ByteArray := prog_5_method_13_code
def yX3_beginRepeat : MethodName := ⟨RX3, "beginRepeat", "(III)Z"⟩
abbrev cX3_sendItem : ByteArray := prog_5_method_14_code
def yX3_sendItem : MethodName := ⟨RX3, "sendItem", "(LThirdVotes$State;I)Z"⟩
abbrev cX3_widthOfItem : ByteArray := prog_5_method_15_code
def yX3_widthOfItem : MethodName := ⟨RX3, "widthOfItem", "(I)I"⟩
abbrev cX3_numberAt : ByteArray := prog_5_method_16_code
def yX3_numberAt : MethodName := ⟨RX3, "numberAt", "(I)I"⟩
abbrev cX3_isStretch : ByteArray := prog_5_method_17_code
def yX3_isStretch : MethodName := ⟨RX3, "isStretch", "(C)Z"⟩
abbrev cX3_isBetween : ByteArray := prog_5_method_18_code
def yX3_isBetween : MethodName := ⟨RX3, "isBetween", "(CCC)Z"⟩
abbrev cX3_digit : ByteArray := prog_5_method_19_code
def yX3_digit : MethodName := ⟨RX3, "digit", "(C)I"⟩
def RX4 : String := "ThirdVotes"
def TX4 : u_T := fun k => match k with
  | 0 => ("ThirdVotes", "state", "LThirdVotes$State;", true)
  | 1 => ("ThirdVotes", "trial", "LThirdVotes$State;", true)
  | 2 => ("ThirdVotes", "receiver", "LThirdVotes$Receiver;", true)
  | 3 => ("ThirdVotes", "text", "LThirdVotes$Text;", true)
  | _ => ("ThirdVotes", "history", "LThirdVotes$History;", true)
def tyX4 : Nat → FieldType := fun k => match k with
  | 0 => .object "ThirdVotes$State"
  | 1 => .object "ThirdVotes$State"
  | 2 => .object "ThirdVotes$Receiver"
  | 3 => .object "ThirdVotes$Text"
  | _ => .object "ThirdVotes$History"
abbrev wsX40 : List Cond := u_ws RX4 TX4 5
theorem nmX4 : ∀ a, a < 5 → ∀ b, b < 5 → a ≠ b → (TX4 a).2.1 ≠ (TX4 b).2.1 := by decide +kernel
theorem tyX4_ok : ∀ k, k < 5 → parseFieldDescriptor (TX4 k).2.2.1 = some (tyX4 k) := by decide +kernel
abbrev cX4_init : ByteArray := prog_1_method_1_code
def yX4_init : MethodName := ⟨RX4, "<init>", "()V"⟩
abbrev cX4_send : ByteArray := prog_1_method_2_code
def yX4_send : MethodName := ⟨RX4, "send", "(I)I"⟩
abbrev cX4_pause : ByteArray := prog_1_method_3_code
def yX4_pause : MethodName := ⟨RX4, "pause", "(I)I"⟩
abbrev cX4_sendBreak : ByteArray := prog_1_method_4_code
def yX4_sendBreak : MethodName := ⟨RX4, "sendBreak", "(I)I"⟩
abbrev cX4_disturb : ByteArray := prog_1_method_5_code
def yX4_disturb : MethodName := ⟨RX4, "disturb", "(II)I"⟩
abbrev cX4_clear : ByteArray := prog_1_method_6_code
def yX4_clear : MethodName := ⟨RX4, "clear", "()I"⟩
abbrev cX4_set : ByteArray := prog_1_method_7_code
def yX4_set : MethodName := ⟨RX4, "set", "(II)I"⟩
abbrev cX4_learn : ByteArray := prog_1_method_8_code
def yX4_learn : MethodName := ⟨RX4, "learn", "()I"⟩
abbrev cX4_type : ByteArray := prog_1_method_9_code
def yX4_type : MethodName := ⟨RX4, "type", "(C)I"⟩
abbrev cX4_clearText : ByteArray := prog_1_method_10_code
def yX4_clearText : MethodName := ⟨RX4, "clearText", "()I"⟩
abbrev cX4_perform : ByteArray := prog_1_method_11_code
def yX4_perform : MethodName := ⟨RX4, "perform", "()I"⟩
abbrev cX4_undo : ByteArray := prog_1_method_12_code
def yX4_undo : MethodName := ⟨RX4, "undo", "()I"⟩
abbrev cX4_keep : ByteArray := prog_1_method_13_code
def yX4_keep : MethodName := ⟨RX4, "keep", "()I"⟩
abbrev cX4_restore : ByteArray := prog_1_method_14_code
def yX4_restore : MethodName := ⟨RX4, "restore", "()I"⟩
abbrev cX4_level : ByteArray := prog_1_method_15_code
def yX4_level : MethodName := ⟨RX4, "level", "(I)I"⟩
abbrev cX4_fall : ByteArray := prog_1_method_16_code
def yX4_fall : MethodName := ⟨RX4, "fall", "(I)I"⟩
abbrev cX4_sent : ByteArray := prog_1_method_17_code
def yX4_sent : MethodName := ⟨RX4, "sent", "(I)I"⟩
abbrev cX4_received : ByteArray := prog_1_method_18_code
def yX4_received : MethodName := ⟨RX4, "received", "(II)I"⟩
abbrev cX4_total : ByteArray := prog_1_method_19_code
def yX4_total : MethodName := ⟨RX4, "total", "(I)I"⟩
abbrev cX4_ifLength : ByteArray := prog_1_method_20_code
def yX4_ifLength : MethodName := ⟨RX4, "ifLength", "(II)I"⟩
abbrev cX4_goodLength : ByteArray := prog_1_method_21_code
def yX4_goodLength : MethodName := ⟨RX4, "goodLength", "(Z)I"⟩
abbrev cX4_harm : ByteArray := prog_1_method_22_code
def yX4_harm : MethodName := ⟨RX4, "harm", "(I)I"⟩
abbrev cX4_ifSent : ByteArray := prog_1_method_23_code
def yX4_ifSent : MethodName := ⟨RX4, "ifSent", "(I)I"⟩
abbrev cX4_isWord : ByteArray := prog_1_method_24_code
def yX4_isWord : MethodName := ⟨RX4, "isWord", "(I)Z"⟩
abbrev cX4_isDisturbance : ByteArray := prog_1_method_25_code
def yX4_isDisturbance : MethodName := ⟨RX4, "isDisturbance", "(I)Z"⟩
abbrev cX4_parityOf : ByteArray := prog_1_method_26_code
def yX4_parityOf : MethodName := ⟨RX4, "parityOf", "(II)I"⟩
abbrev cX4_sendStretch : ByteArray := prog_1_method_27_code
def yX4_sendStretch : MethodName := ⟨RX4, "sendStretch", "(II)I"⟩
abbrev cX4_isWellWith : ByteArray := prog_1_method_28_code
def yX4_isWellWith : MethodName := ⟨RX4, "isWellWith", "(LThirdVotes$State;I)Z"⟩
abbrev cX4_totalReceived : ByteArray := prog_1_method_29_code
def yX4_totalReceived : MethodName := ⟨RX4, "totalReceived", "(I)I"⟩
def RX5 : String := "ThirdVotesModel"
def TX5 : u_T := fun k => match k with
  | 0 => ("ThirdVotesModel", "state", "[I", true)
  | 1 => ("ThirdVotesModel", "history", "[I", true)
  | 2 => ("ThirdVotesModel", "states", "I", false)
  | 3 => ("ThirdVotesModel", "snapshot", "[I", true)
  | 4 => ("ThirdVotesModel", "hasSnapshot", "Z", false)
  | 5 => ("ThirdVotesModel", "spare", "[I", true)
  | 6 => ("ThirdVotesModel", "text", "[I", true)
  | 7 => ("ThirdVotesModel", "length", "I", false)
  | 8 => ("ThirdVotesModel", "at", "I", false)
  | 9 => ("ThirdVotesModel", "deep", "I", false)
  | 10 => ("ThirdVotesModel", "begins", "[I", true)
  | 11 => ("ThirdVotesModel", "times", "[I", true)
  | 12 => ("ThirdVotesModel", "many", "I", false)
  | 13 => ("ThirdVotesModel", "falseStarts", "I", false)
  | 14 => ("ThirdVotesModel", "kinds", "[I", true)
  | 15 => ("ThirdVotesModel", "words", "[I", true)
  | 16 => ("ThirdVotesModel", "starts", "[I", true)
  | 17 => ("ThirdVotesModel", "doubts", "[I", true)
  | 18 => ("ThirdVotesModel", "lasts", "[I", true)
  | _ => ("ThirdVotesModel", "doubtful", "I", false)
def tyX5 : Nat → FieldType := fun k => match k with
  | 0 => .array .int
  | 1 => .array .int
  | 2 => .int
  | 3 => .array .int
  | 4 => .boolean
  | 5 => .array .int
  | 6 => .array .int
  | 7 => .int
  | 8 => .int
  | 9 => .int
  | 10 => .array .int
  | 11 => .array .int
  | 12 => .int
  | 13 => .int
  | 14 => .array .int
  | 15 => .array .int
  | 16 => .array .int
  | 17 => .array .int
  | 18 => .array .int
  | _ => .int
abbrev wsX50 : List Cond := u_ws RX5 TX5 20
theorem nmX5 : ∀ a, a < 20 → ∀ b, b < 20 → a ≠ b → (TX5 a).2.1 ≠ (TX5 b).2.1 := by decide +kernel
theorem tyX5_ok : ∀ k, k < 20 → parseFieldDescriptor (TX5 k).2.2.1 = some (tyX5 k) := by decide +kernel
abbrev cX5_init : ByteArray := prog_7_method_1_code
def yX5_init : MethodName := ⟨RX5, "<init>", "()V"⟩
abbrev cX5_within : ByteArray := prog_7_method_2_code
def yX5_within : MethodName := ⟨RX5, "within", "(III)Z"⟩
abbrev cX5_push : ByteArray := prog_7_method_3_code
def yX5_push : MethodName := ⟨RX5, "push", "()V"⟩
abbrev cX5_putAside : ByteArray := prog_7_method_4_code
def yX5_putAside : MethodName := ⟨RX5, "putAside", "()V"⟩
abbrev cX5_takeBack : ByteArray := prog_7_method_5_code
def yX5_takeBack : MethodName := ⟨RX5, "takeBack", "()V"⟩
abbrev cX5_record : ByteArray := prog_7_method_6_code
def yX5_record : MethodName := ⟨RX5, "record", "()V"⟩
abbrev cX5_undo : ByteArray := prog_7_method_7_code
def yX5_undo : MethodName := ⟨RX5, "undo", "()I"⟩
abbrev cX5_keep : ByteArray := prog_7_method_8_code
def yX5_keep : MethodName := ⟨RX5, "keep", "()I"⟩
abbrev cX5_restore : ByteArray := prog_7_method_9_code
def yX5_restore : MethodName := ⟨RX5, "restore", "()I"⟩
abbrev cX5_ones : ByteArray := prog_7_method_10_code
def yX5_ones : MethodName := ⟨RX5, "ones", "(I)I"⟩
abbrev cX5_parityOf : ByteArray := prog_7_method_11_code
def yX5_parityOf : MethodName := ⟨RX5, "parityOf", "(I)I"⟩
abbrev cX5_bitsOf : ByteArray := prog_7_method_12_code
def yX5_bitsOf : MethodName := ⟨RX5, "bitsOf", "(I)I"⟩
abbrev cX5_bitMany : ByteArray := prog_7_method_13_code
def yX5_bitMany : MethodName := ⟨RX5, "bitMany", "()I"⟩
abbrev cX5_lengthOf : ByteArray := prog_7_method_14_code
def yX5_lengthOf : MethodName := ⟨RX5, "lengthOf", "(I)I"⟩
abbrev cX5_putWord : ByteArray := prog_7_method_15_code
def yX5_putWord : MethodName := ⟨RX5, "putWord", "(I)Z"⟩
abbrev cX5_putLevel : ByteArray := prog_7_method_16_code
def yX5_putLevel : MethodName := ⟨RX5, "putLevel", "(II)Z"⟩
abbrev cX5_send : ByteArray := prog_7_method_17_code
def yX5_send : MethodName := ⟨RX5, "send", "(I)I"⟩
abbrev cX5_putsLevel : ByteArray := prog_7_method_18_code
def yX5_putsLevel : MethodName := ⟨RX5, "putsLevel", "(II)I"⟩
abbrev cX5_pause : ByteArray := prog_7_method_19_code
def yX5_pause : MethodName := ⟨RX5, "pause", "(I)I"⟩
abbrev cX5_sendBreak : ByteArray := prog_7_method_20_code
def yX5_sendBreak : MethodName := ⟨RX5, "sendBreak", "(I)I"⟩
abbrev cX5_flip : ByteArray := prog_7_method_21_code
def yX5_flip : MethodName := ⟨RX5, "flip", "(II)V"⟩
abbrev cX5_disturb : ByteArray := prog_7_method_22_code
def yX5_disturb : MethodName := ⟨RX5, "disturb", "(II)I"⟩
abbrev cX5_clear : ByteArray := prog_7_method_23_code
def yX5_clear : MethodName := ⟨RX5, "clear", "()I"⟩
abbrev cX5_isValue : ByteArray := prog_7_method_24_code
def yX5_isValue : MethodName := ⟨RX5, "isValue", "(II)Z"⟩
abbrev cX5_set : ByteArray := prog_7_method_25_code
def yX5_set : MethodName := ⟨RX5, "set", "(II)I"⟩
abbrev cX5_learn : ByteArray := prog_7_method_26_code
def yX5_learn : MethodName := ⟨RX5, "learn", "()I"⟩
abbrev cX5_levelAt : ByteArray := prog_7_method_27_code
def yX5_levelAt : MethodName := ⟨RX5, "levelAt", "(I)I"⟩
abbrev cX5_isFall : ByteArray := prog_7_method_28_code
def yX5_isFall : MethodName := ⟨RX5, "isFall", "(I)Z"⟩
abbrev cX5_bit : ByteArray := prog_7_method_29_code
def yX5_bit : MethodName := ⟨RX5, "bit", "(II)I"⟩
abbrev cX5_tells : ByteArray := prog_7_method_30_code
def yX5_tells : MethodName := ⟨RX5, "tells", "(II)Z"⟩
abbrev cX5_receive : ByteArray := prog_7_method_31_code
def yX5_receive : MethodName := ⟨RX5, "receive", "(I)V"⟩
abbrev cX5_ofKind : ByteArray := prog_7_method_32_code
def yX5_ofKind : MethodName := ⟨RX5, "ofKind", "(I)I"⟩
abbrev cX5_isWell : ByteArray := prog_7_method_33_code
def yX5_isWell : MethodName := ⟨RX5, "isWell", "()Z"⟩
abbrev cX5_isWellWith : ByteArray := prog_7_method_34_code
def yX5_isWellWith : MethodName := ⟨RX5, "isWellWith", "(I)Z"⟩
abbrev cX5_fallOf : ByteArray := prog_7_method_35_code
def yX5_fallOf : MethodName := ⟨RX5, "fallOf", "(I)I"⟩
abbrev cX5_learned : ByteArray := prog_7_method_36_code
def yX5_learned : MethodName := ⟨RX5, "learned", "()I"⟩
abbrev cX5_type : ByteArray := prog_7_method_37_code
def yX5_type : MethodName := ⟨RX5, "type", "(C)I"⟩
abbrev cX5_clearText : ByteArray := prog_7_method_38_code
def yX5_clearText : MethodName := ⟨RX5, "clearText", "()I"⟩
abbrev cX5_codeAt : ByteArray := prog_7_method_39_code
def yX5_codeAt : MethodName := ⟨RX5, "codeAt", "(I)I"⟩
abbrev cX5_hex : ByteArray := prog_7_method_40_code
def yX5_hex : MethodName := ⟨RX5, "hex", "(I)I"⟩
abbrev cX5_readNumber : ByteArray := prog_7_method_41_code
def yX5_readNumber : MethodName := ⟨RX5, "readNumber", "()I"⟩
abbrev cX5_isRepeat : ByteArray := prog_7_method_42_code
def yX5_isRepeat : MethodName := ⟨RX5, "isRepeat", "()Z"⟩
abbrev cX5_passesItem : ByteArray := prog_7_method_43_code
def yX5_passesItem : MethodName := ⟨RX5, "passesItem", "()Z"⟩
abbrev cX5_fault : ByteArray := prog_7_method_44_code
def yX5_fault : MethodName := ⟨RX5, "fault", "()I"⟩
abbrev cX5_sendsItem : ByteArray := prog_7_method_45_code
def yX5_sendsItem : MethodName := ⟨RX5, "sendsItem", "()Z"⟩
abbrev cX5_goOn : ByteArray := prog_7_method_46_code
def yX5_goOn : MethodName := ⟨RX5, "goOn", "()V"⟩
abbrev cX5_perform : ByteArray := prog_7_method_47_code
def yX5_perform : MethodName := ⟨RX5, "perform", "()I"⟩
abbrev cX5_level : ByteArray := prog_7_method_48_code
def yX5_level : MethodName := ⟨RX5, "level", "(I)I"⟩
abbrev cX5_fall : ByteArray := prog_7_method_49_code
def yX5_fall : MethodName := ⟨RX5, "fall", "(I)I"⟩
abbrev cX5_sent : ByteArray := prog_7_method_50_code
def yX5_sent : MethodName := ⟨RX5, "sent", "(I)I"⟩
abbrev cX5_received : ByteArray := prog_7_method_51_code
def yX5_received : MethodName := ⟨RX5, "received", "(II)I"⟩
abbrev cX5_falls : ByteArray := prog_7_method_52_code
def yX5_falls : MethodName := ⟨RX5, "falls", "()I"⟩
abbrev cX5_zeros : ByteArray := prog_7_method_53_code
def yX5_zeros : MethodName := ⟨RX5, "zeros", "()I"⟩
abbrev cX5_tellsReceived : ByteArray := prog_7_method_54_code
def yX5_tellsReceived : MethodName := ⟨RX5, "tellsReceived", "(I)I"⟩
abbrev cX5_total : ByteArray := prog_7_method_55_code
def yX5_total : MethodName := ⟨RX5, "total", "(I)I"⟩
abbrev cX5_ifLength : ByteArray := prog_7_method_56_code
def yX5_ifLength : MethodName := ⟨RX5, "ifLength", "(II)I"⟩
abbrev cX5_goodLength : ByteArray := prog_7_method_57_code
def yX5_goodLength : MethodName := ⟨RX5, "goodLength", "(Z)I"⟩
abbrev cX5_harm : ByteArray := prog_7_method_58_code
def yX5_harm : MethodName := ⟨RX5, "harm", "(I)I"⟩
abbrev cX5_ifSent : ByteArray := prog_7_method_59_code
def yX5_ifSent : MethodName := ⟨RX5, "ifSent", "(I)I"⟩
def RJ6 : String := "java/lang/Integer"
def TJ6 : u_T := fun k => match k with
  | _ => ("", "", "", false)
def tyJ6 : Nat → FieldType := fun k => match k with
  | _ => .int
abbrev wsJ60 : List Cond := u_ws RJ6 TJ6 0
theorem nmJ6 : ∀ a, a < 0 → ∀ b, b < 0 → a ≠ b → (TJ6 a).2.1 ≠ (TJ6 b).2.1 := by decide +kernel
theorem tyJ6_ok : ∀ k, k < 0 → parseFieldDescriptor (TJ6 k).2.2.1 = some (tyJ6 k) := by decide +kernel
abbrev cJ6_bitCount_0f7a4 : ByteArray := prog_8_method_49_code
def yJ6_bitCount_0f7a4 : MethodName := ⟨RJ6, "bitCount", "(I)I"⟩
def RJ13 : String := "java/lang/Long"
def TJ13 : u_T := fun k => match k with
  | _ => ("", "", "", false)
def tyJ13 : Nat → FieldType := fun k => match k with
  | _ => .int
abbrev wsJ130 : List Cond := u_ws RJ13 TJ13 0
theorem nmJ13 : ∀ a, a < 0 → ∀ b, b < 0 → a ≠ b → (TJ13 a).2.1 ≠ (TJ13 b).2.1 := by decide +kernel
theorem tyJ13_ok : ∀ k, k < 0 → parseFieldDescriptor (TJ13 k).2.2.1 = some (tyJ13 k) := by decide +kernel
abbrev cJ13_bitCount_95d88 : ByteArray := prog_9_method_50_code
def yJ13_bitCount_95d88 : MethodName := ⟨RJ13, "bitCount", "(J)I"⟩
def RJ9 : String := "java/lang/Math"
def TJ9 : u_T := fun k => match k with
  | _ => ("", "", "", false)
def tyJ9 : Nat → FieldType := fun k => match k with
  | _ => .int
abbrev wsJ90 : List Cond := u_ws RJ9 TJ9 0
theorem nmJ9 : ∀ a, a < 0 → ∀ b, b < 0 → a ≠ b → (TJ9 a).2.1 ≠ (TJ9 b).2.1 := by decide +kernel
theorem tyJ9_ok : ∀ k, k < 0 → parseFieldDescriptor (TJ9 k).2.2.1 = some (tyJ9 k) := by decide +kernel
abbrev cJ9_max_7cf53 : ByteArray := prog_10_method_65_code
def yJ9_max_7cf53 : MethodName := ⟨RJ9, "max", "(II)I"⟩
def RJ10 : String := "java/lang/System"
def TJ10 : u_T := fun k => match k with
  | _ => ("", "", "", false)
def tyJ10 : Nat → FieldType := fun k => match k with
  | _ => .int
abbrev wsJ100 : List Cond := u_ws RJ10 TJ10 0
theorem nmJ10 : ∀ a, a < 0 → ∀ b, b < 0 → a ≠ b → (TJ10 a).2.1 ≠ (TJ10 b).2.1 := by decide +kernel
theorem tyJ10_ok : ∀ k, k < 0 → parseFieldDescriptor (TJ10 k).2.2.1 = some (tyJ10 k) := by decide +kernel
def RJ7 : String := "java/util/Arrays"
def TJ7 : u_T := fun k => match k with
  | _ => ("", "", "", false)
def tyJ7 : Nat → FieldType := fun k => match k with
  | _ => .int
abbrev wsJ70 : List Cond := u_ws RJ7 TJ7 0
theorem nmJ7 : ∀ a, a < 0 → ∀ b, b < 0 → a ≠ b → (TJ7 a).2.1 ≠ (TJ7 b).2.1 := by decide +kernel
theorem tyJ7_ok : ∀ k, k < 0 → parseFieldDescriptor (TJ7 k).2.2.1 = some (tyJ7 k) := by decide +kernel
abbrev cJ7_fill_d0a16 : ByteArray := prog_12_method_101_code
def yJ7_fill_d0a16 : MethodName := ⟨RJ7, "fill", "([JJ)V"⟩
def RL : String := "ThirdVotesLaw"
abbrev cL_law : ByteArray := code
def yL_law : MethodName := ⟨RL, "law", "([I)Z"⟩
def wsJ7_fill_d0a16 : List Cond := .code yJ7_fill_d0a16 cJ7_fill_d0a16 5 none :: ([])
def wsX2_init : List Cond := .code yX2_init cX2_init 1 none :: ([.methodLink RX2 5 objectInit, .instanceMethod objectInit, .code objectInit ⟨#[0xb1]⟩ 1 none, .arrayClass .long, .fieldLink RX2 11 "ThirdVotes$State" "levels" "[J", .arrayClass .int, .fieldLink RX2 15 "ThirdVotes$State" "words" "[I", .fieldLink RX2 19 "ThirdVotes$State" "settings" "[I", .constantLong RX2 22 (-1), .methodLink RX2 33 arraycopyName, .native arraycopyName, .static arraycopyName, .initialized "java/lang/System", .methodLink RX2 24 yJ7_fill_d0a16, .static yJ7_fill_d0a16, .initialized RJ7, .code yJ7_fill_d0a16 cJ7_fill_d0a16 5 none] ++ wsX20)
def wsX0_init_r1 : List Cond := [Cond.methodLink RX0 1 objectInit, Cond.instanceMethod objectInit, Cond.code objectInit ⟨#[0xb1]⟩ 1 none, Cond.classLink RX0 9 RX2, Cond.fieldLink RX0 11 "ThirdVotes$History" "states" "[LThirdVotes$State;", Cond.instantiable RX2 5, Cond.initialized RX2, Cond.fieldLink RX0 16 "ThirdVotes$History" "snapshot" "LThirdVotes$State;", Cond.methodLink RX0 15 yX2_init, Cond.instanceMethod yX2_init, Cond.code yX2_init cX2_init 1 none, Cond.methodLink RX2 5 objectInit, Cond.arrayClass .long, Cond.fieldLink RX2 11 "ThirdVotes$State" "levels" "[J", Cond.arrayClass .int, Cond.fieldLink RX2 15 "ThirdVotes$State" "words" "[I", Cond.fieldLink RX2 19 "ThirdVotes$State" "settings" "[I", Cond.constantLong RX2 22 (-1), Cond.methodLink RX2 33 arraycopyName, Cond.native arraycopyName, Cond.static arraycopyName, Cond.initialized "java/lang/System", Cond.methodLink RX2 24 yJ7_fill_d0a16, Cond.static yJ7_fill_d0a16]
def wsX0_init_r2 : List Cond := [Cond.initialized RJ7, Cond.code yJ7_fill_d0a16 cJ7_fill_d0a16 5 none]
def wsX0_init : List Cond := .code yX0_init cX0_init 2 none :: ((wsX0_init_r1 ++ wsX0_init_r2) ++ wsX00 ++ wsX20)
def wsX0_size : List Cond := .code yX0_size cX0_size 1 (some .int) :: ([.fieldLink RX0 20 "ThirdVotes$History" "size" "I"] ++ wsX00)
def wsX0_hasSnapshot : List Cond := .code yX0_hasSnapshot cX0_hasSnapshot 1 (some .boolean) :: ([.fieldLink RX0 24 "ThirdVotes$History" "hasSnapshot" "Z"] ++ wsX00)
def wsX0_dropOldest : List Cond := .code yX0_dropOldest cX0_dropOldest 3 none :: ([.fieldLink RX0 11 "ThirdVotes$History" "states" "[LThirdVotes$State;", .fieldLink RX0 20 "ThirdVotes$History" "size" "I"] ++ wsX00)
def wsX2_copyFrom : List Cond := .code yX2_copyFrom cX2_copyFrom 2 none :: ([.fieldLink RX2 11 "ThirdVotes$State" "levels" "[J", .methodLink RX2 33 arraycopyName, .native arraycopyName, .static arraycopyName, .initialized "java/lang/System", .fieldLink RX2 15 "ThirdVotes$State" "words" "[I", .fieldLink RX2 19 "ThirdVotes$State" "settings" "[I", .fieldLink RX2 39 "ThirdVotes$State" "end" "I", .fieldLink RX2 43 "ThirdVotes$State" "wordCount" "I"] ++ wsX20)
def wsX0_remember : List Cond := .code yX0_remember cX0_remember 2 none :: ([.fieldLink RX0 20 "ThirdVotes$History" "size" "I", .fieldLink RX0 11 "ThirdVotes$History" "states" "[LThirdVotes$State;", .methodLink RX0 28 yX0_dropOldest, .instanceMethod yX0_dropOldest, .selects RX0 yX0_dropOldest yX0_dropOldest, .initialized RX0, .code yX0_dropOldest cX0_dropOldest 3 none, .methodLink RX0 31 yX2_copyFrom, .instanceMethod yX2_copyFrom, .selects RX2 yX2_copyFrom yX2_copyFrom, .initialized RX2, .code yX2_copyFrom cX2_copyFrom 2 none, .fieldLink RX2 11 "ThirdVotes$State" "levels" "[J", .methodLink RX2 33 arraycopyName, .native arraycopyName, .static arraycopyName, .initialized "java/lang/System", .fieldLink RX2 15 "ThirdVotes$State" "words" "[I", .fieldLink RX2 19 "ThirdVotes$State" "settings" "[I", .fieldLink RX2 39 "ThirdVotes$State" "end" "I", .fieldLink RX2 43 "ThirdVotes$State" "wordCount" "I"] ++ wsX00 ++ wsX20)
def wsX0_takeBack : List Cond := .code yX0_takeBack cX0_takeBack 2 (some .boolean) :: ([.fieldLink RX0 20 "ThirdVotes$History" "size" "I", .fieldLink RX0 11 "ThirdVotes$History" "states" "[LThirdVotes$State;", .methodLink RX0 31 yX2_copyFrom, .instanceMethod yX2_copyFrom, .selects RX2 yX2_copyFrom yX2_copyFrom, .initialized RX2, .code yX2_copyFrom cX2_copyFrom 2 none, .fieldLink RX2 11 "ThirdVotes$State" "levels" "[J", .methodLink RX2 33 arraycopyName, .native arraycopyName, .static arraycopyName, .initialized "java/lang/System", .fieldLink RX2 15 "ThirdVotes$State" "words" "[I", .fieldLink RX2 19 "ThirdVotes$State" "settings" "[I", .fieldLink RX2 39 "ThirdVotes$State" "end" "I", .fieldLink RX2 43 "ThirdVotes$State" "wordCount" "I"] ++ wsX00 ++ wsX20)
def wsX0_takeSnapshot : List Cond := .code yX0_takeSnapshot cX0_takeSnapshot 2 none :: ([.fieldLink RX0 16 "ThirdVotes$History" "snapshot" "LThirdVotes$State;", .fieldLink RX0 24 "ThirdVotes$History" "hasSnapshot" "Z", .methodLink RX0 31 yX2_copyFrom, .instanceMethod yX2_copyFrom, .selects RX2 yX2_copyFrom yX2_copyFrom, .initialized RX2, .code yX2_copyFrom cX2_copyFrom 2 none, .fieldLink RX2 11 "ThirdVotes$State" "levels" "[J", .methodLink RX2 33 arraycopyName, .native arraycopyName, .static arraycopyName, .initialized "java/lang/System", .fieldLink RX2 15 "ThirdVotes$State" "words" "[I", .fieldLink RX2 19 "ThirdVotes$State" "settings" "[I", .fieldLink RX2 39 "ThirdVotes$State" "end" "I", .fieldLink RX2 43 "ThirdVotes$State" "wordCount" "I"] ++ wsX00 ++ wsX20)
def wsX0_copySnapshotTo : List Cond := .code yX0_copySnapshotTo cX0_copySnapshotTo 2 none :: ([.fieldLink RX0 16 "ThirdVotes$History" "snapshot" "LThirdVotes$State;", .methodLink RX0 31 yX2_copyFrom, .instanceMethod yX2_copyFrom, .selects RX2 yX2_copyFrom yX2_copyFrom, .initialized RX2, .code yX2_copyFrom cX2_copyFrom 2 none, .fieldLink RX2 11 "ThirdVotes$State" "levels" "[J", .methodLink RX2 33 arraycopyName, .native arraycopyName, .static arraycopyName, .initialized "java/lang/System", .fieldLink RX2 15 "ThirdVotes$State" "words" "[I", .fieldLink RX2 19 "ThirdVotes$State" "settings" "[I", .fieldLink RX2 39 "ThirdVotes$State" "end" "I", .fieldLink RX2 43 "ThirdVotes$State" "wordCount" "I"] ++ wsX00 ++ wsX20)
def wsX1_init : List Cond := .code yX1_init cX1_init 1 none :: ([.methodLink RX1 3 objectInit, .instanceMethod objectInit, .code objectInit ⟨#[0xb1]⟩ 1 none, .classLink RX1 11 "[[I", .arrayClass .int, .fieldLink RX1 13 "ThirdVotes$Receiver" "notes" "[[I"] ++ wsX10)
def wsX2_fallsIn : List Cond := .code yX2_fallsIn cX2_fallsIn 4 (some .long) :: ([.fieldLink RX2 11 "ThirdVotes$State" "levels" "[J", .constantLong RX2 22 (-1)] ++ wsX20)
def wsJ13_bitCount_95d88 : List Cond := .code yJ13_bitCount_95d88 cJ13_bitCount_95d88 2 (some .int) :: ([.constantLong RJ13 314 (6148914691236517205), .constantLong RJ13 316 (3689348814741910323), .constantLong RJ13 318 (1085102592571150095)])
def wsX2_behindRow : List Cond := .code yX2_behindRow cX2_behindRow 1 (some .int) :: ([])
def wsX2_nextFall : List Cond := .code yX2_nextFall cX2_nextFall 7 (some .int) :: ([.methodLink RX2 65 Lib.Math.max.name, .static Lib.Math.max.name, .initialized "java/lang/Math", .code Lib.Math.max.name Lib.Math.max.code 2 (some .int), .fieldLink RX2 39 "ThirdVotes$State" "end" "I", .methodLink RX2 74 yX2_fallsIn, .instanceMethod yX2_fallsIn, .selects RX2 yX2_fallsIn yX2_fallsIn, .initialized RX2, .code yX2_fallsIn cX2_fallsIn 4 (some .long), .fieldLink RX2 11 "ThirdVotes$State" "levels" "[J", .constantLong RX2 22 (-1), .methodLink RX2 78 yJ13_bitCount_95d88, .static yJ13_bitCount_95d88, .initialized RJ13, .code yJ13_bitCount_95d88 cJ13_bitCount_95d88 2 (some .int), .constantLong RJ13 314 (6148914691236517205), .constantLong RJ13 316 (3689348814741910323), .constantLong RJ13 318 (1085102592571150095), .methodLink RX2 84 yX2_behindRow, .static yX2_behindRow, .code yX2_behindRow cX2_behindRow 1 (some .int)] ++ wsX20)
def wsX2_end : List Cond := .code yX2_end cX2_end 1 (some .int) :: ([.fieldLink RX2 39 "ThirdVotes$State" "end" "I"] ++ wsX20)
def wsX2_levelAt : List Cond := .code yX2_levelAt cX2_levelAt 2 (some .int) :: ([.fieldLink RX2 39 "ThirdVotes$State" "end" "I", .fieldLink RX2 11 "ThirdVotes$State" "levels" "[J"] ++ wsX20)
def wsX1_thirdLook : List Cond := .code yX1_thirdLook cX1_thirdLook 2 (some .int) :: ([])
def wsX2_setting : List Cond := .code yX2_setting cX2_setting 2 (some .int) :: ([.fieldLink RX2 19 "ThirdVotes$State" "settings" "[I"] ++ wsX20)
def wsX1_tellBit : List Cond := .code yX1_tellBit cX1_tellBit 6 (some .int) :: ([.fieldLink RX1 56 "ThirdVotes$Receiver" "doubtfulBits" "I", .methodLink RX1 79 yX2_levelAt, .instanceMethod yX2_levelAt, .selects RX2 yX2_levelAt yX2_levelAt, .initialized RX2, .code yX2_levelAt cX2_levelAt 2 (some .int), .fieldLink RX2 39 "ThirdVotes$State" "end" "I", .fieldLink RX2 11 "ThirdVotes$State" "levels" "[J", .methodLink RX1 62 yX1_thirdLook, .static yX1_thirdLook, .initialized RX1, .code yX1_thirdLook cX1_thirdLook 2 (some .int), .methodLink RX1 65 yX2_setting, .instanceMethod yX2_setting, .selects RX2 yX2_setting yX2_setting, .code yX2_setting cX2_setting 2 (some .int), .fieldLink RX2 19 "ThirdVotes$State" "settings" "[I"] ++ wsX10 ++ wsX20)
def wsX1_wordIn : List Cond := .code yX1_wordIn cX1_wordIn 1 (some .int) :: ([])
def wsJ6_bitCount_0f7a4 : List Cond := .code yJ6_bitCount_0f7a4 cJ6_bitCount_0f7a4 1 (some .int) :: ([.constant RJ6 265 (1431655765), .constant RJ6 266 (858993459), .constant RJ6 267 (252645135)])
def wsX4_parityOf : List Cond := .code yX4_parityOf cX4_parityOf 3 (some .int) :: ([.methodLink RX4 175 yJ6_bitCount_0f7a4, .static yJ6_bitCount_0f7a4, .initialized RJ6, .code yJ6_bitCount_0f7a4 cJ6_bitCount_0f7a4 1 (some .int), .constant RJ6 265 (1431655765), .constant RJ6 266 (858993459), .constant RJ6 267 (252645135)])
def wsX1_kindOf : List Cond := .code yX1_kindOf cX1_kindOf 3 (some .int) :: ([.methodLink RX1 72 yX1_wordIn, .static yX1_wordIn, .initialized RX1, .code yX1_wordIn cX1_wordIn 1 (some .int), .static yX4_parityOf, .initialized RX4, .code yX4_parityOf cX4_parityOf 3 (some .int), .methodLink RX4 175 yJ6_bitCount_0f7a4, .static yJ6_bitCount_0f7a4, .initialized RJ6, .code yJ6_bitCount_0f7a4 cJ6_bitCount_0f7a4 1 (some .int), .constant RJ6 265 (1431655765), .constant RJ6 266 (858993459), .constant RJ6 267 (252645135)])
def wsX1_add : List Cond := .code yX1_add cX1_add 5 none :: ([.fieldLink RX1 16 "ThirdVotes$Receiver" "count" "I", .fieldLink RX1 13 "ThirdVotes$Receiver" "notes" "[[I", .fieldLink RX1 56 "ThirdVotes$Receiver" "doubtfulBits" "I"] ++ wsX10)
def wsX1_tellFrom_r1 : List Cond := [Cond.fieldLink RX1 56 "ThirdVotes$Receiver" "doubtfulBits" "I", Cond.fieldLink RX1 20 "ThirdVotes$Receiver" "falseStarts" "I", Cond.methodLink RX1 59 yX1_tellBit, Cond.instanceMethod yX1_tellBit, Cond.selects RX1 yX1_tellBit yX1_tellBit, Cond.initialized RX1, Cond.code yX1_tellBit cX1_tellBit 6 (some .int), Cond.methodLink RX1 79 yX2_levelAt, Cond.instanceMethod yX2_levelAt, Cond.selects RX2 yX2_levelAt yX2_levelAt, Cond.initialized RX2, Cond.code yX2_levelAt cX2_levelAt 2 (some .int), Cond.fieldLink RX2 39 "ThirdVotes$State" "end" "I", Cond.fieldLink RX2 11 "ThirdVotes$State" "levels" "[J", Cond.methodLink RX1 62 yX1_thirdLook, Cond.static yX1_thirdLook, Cond.code yX1_thirdLook cX1_thirdLook 2 (some .int), Cond.methodLink RX1 65 yX2_setting, Cond.instanceMethod yX2_setting, Cond.selects RX2 yX2_setting yX2_setting, Cond.code yX2_setting cX2_setting 2 (some .int), Cond.fieldLink RX2 19 "ThirdVotes$State" "settings" "[I", Cond.methodLink RX1 68 yX1_kindOf, Cond.static yX1_kindOf]
def wsX1_tellFrom_r2 : List Cond := [Cond.code yX1_kindOf cX1_kindOf 3 (some .int), Cond.methodLink RX1 72 yX1_wordIn, Cond.static yX1_wordIn, Cond.code yX1_wordIn cX1_wordIn 1 (some .int), Cond.static yX4_parityOf, Cond.initialized RX4, Cond.code yX4_parityOf cX4_parityOf 3 (some .int), Cond.methodLink RX4 175 yJ6_bitCount_0f7a4, Cond.static yJ6_bitCount_0f7a4, Cond.initialized RJ6, Cond.code yJ6_bitCount_0f7a4 cJ6_bitCount_0f7a4 1 (some .int), Cond.constant RJ6 265 (1431655765), Cond.constant RJ6 266 (858993459), Cond.constant RJ6 267 (252645135), Cond.methodLink RX1 75 yX1_add, Cond.instanceMethod yX1_add, Cond.selects RX1 yX1_add yX1_add, Cond.code yX1_add cX1_add 5 none, Cond.fieldLink RX1 16 "ThirdVotes$Receiver" "count" "I", Cond.fieldLink RX1 13 "ThirdVotes$Receiver" "notes" "[[I"]
def wsX1_tellFrom : List Cond := .code yX1_tellFrom cX1_tellFrom 8 (some .int) :: ((wsX1_tellFrom_r1 ++ wsX1_tellFrom_r2) ++ wsX10 ++ wsX20)
def wsX1_receive_r1 : List Cond := [Cond.fieldLink RX1 16 "ThirdVotes$Receiver" "count" "I", Cond.fieldLink RX1 20 "ThirdVotes$Receiver" "falseStarts" "I", Cond.methodLink RX1 37 Lib.Math.max.name, Cond.static Lib.Math.max.name, Cond.initialized "java/lang/Math", Cond.code Lib.Math.max.name Lib.Math.max.code 2 (some .int), Cond.methodLink RX1 23 yX2_nextFall, Cond.instanceMethod yX2_nextFall, Cond.selects RX2 yX2_nextFall yX2_nextFall, Cond.initialized RX2, Cond.code yX2_nextFall cX2_nextFall 7 (some .int), Cond.methodLink RX2 65 Lib.Math.max.name, Cond.fieldLink RX2 39 "ThirdVotes$State" "end" "I", Cond.methodLink RX2 74 yX2_fallsIn, Cond.instanceMethod yX2_fallsIn, Cond.selects RX2 yX2_fallsIn yX2_fallsIn, Cond.code yX2_fallsIn cX2_fallsIn 4 (some .long), Cond.fieldLink RX2 11 "ThirdVotes$State" "levels" "[J", Cond.constantLong RX2 22 (-1), Cond.methodLink RX2 78 yJ13_bitCount_95d88, Cond.static yJ13_bitCount_95d88, Cond.initialized RJ13, Cond.code yJ13_bitCount_95d88 cJ13_bitCount_95d88 2 (some .int), Cond.constantLong RJ13 314 (6148914691236517205)]
def wsX1_receive_r2 : List Cond := [Cond.constantLong RJ13 316 (3689348814741910323), Cond.constantLong RJ13 318 (1085102592571150095), Cond.methodLink RX2 84 yX2_behindRow, Cond.static yX2_behindRow, Cond.code yX2_behindRow cX2_behindRow 1 (some .int), Cond.methodLink RX1 29 yX2_end, Cond.instanceMethod yX2_end, Cond.selects RX2 yX2_end yX2_end, Cond.code yX2_end cX2_end 1 (some .int), Cond.methodLink RX1 33 yX1_tellFrom, Cond.instanceMethod yX1_tellFrom, Cond.selects RX1 yX1_tellFrom yX1_tellFrom, Cond.initialized RX1, Cond.code yX1_tellFrom cX1_tellFrom 8 (some .int), Cond.fieldLink RX1 56 "ThirdVotes$Receiver" "doubtfulBits" "I", Cond.methodLink RX1 59 yX1_tellBit, Cond.instanceMethod yX1_tellBit, Cond.selects RX1 yX1_tellBit yX1_tellBit, Cond.code yX1_tellBit cX1_tellBit 6 (some .int), Cond.methodLink RX1 79 yX2_levelAt, Cond.instanceMethod yX2_levelAt, Cond.selects RX2 yX2_levelAt yX2_levelAt, Cond.code yX2_levelAt cX2_levelAt 2 (some .int), Cond.methodLink RX1 62 yX1_thirdLook]
def wsX1_receive_r3 : List Cond := [Cond.static yX1_thirdLook, Cond.code yX1_thirdLook cX1_thirdLook 2 (some .int), Cond.methodLink RX1 65 yX2_setting, Cond.instanceMethod yX2_setting, Cond.selects RX2 yX2_setting yX2_setting, Cond.code yX2_setting cX2_setting 2 (some .int), Cond.fieldLink RX2 19 "ThirdVotes$State" "settings" "[I", Cond.methodLink RX1 68 yX1_kindOf, Cond.static yX1_kindOf, Cond.code yX1_kindOf cX1_kindOf 3 (some .int), Cond.methodLink RX1 72 yX1_wordIn, Cond.static yX1_wordIn, Cond.code yX1_wordIn cX1_wordIn 1 (some .int), Cond.static yX4_parityOf, Cond.initialized RX4, Cond.code yX4_parityOf cX4_parityOf 3 (some .int), Cond.methodLink RX4 175 yJ6_bitCount_0f7a4, Cond.static yJ6_bitCount_0f7a4, Cond.initialized RJ6, Cond.code yJ6_bitCount_0f7a4 cJ6_bitCount_0f7a4 1 (some .int), Cond.constant RJ6 265 (1431655765), Cond.constant RJ6 266 (858993459), Cond.constant RJ6 267 (252645135), Cond.methodLink RX1 75 yX1_add]
def wsX1_receive_r4 : List Cond := [Cond.instanceMethod yX1_add, Cond.selects RX1 yX1_add yX1_add, Cond.code yX1_add cX1_add 5 none, Cond.fieldLink RX1 13 "ThirdVotes$Receiver" "notes" "[[I"]
def wsX1_receive : List Cond := .code yX1_receive cX1_receive 5 none :: ((wsX1_receive_r1 ++ (wsX1_receive_r2 ++ (wsX1_receive_r3 ++ wsX1_receive_r4))) ++ wsX10 ++ wsX20)
def wsX1_count : List Cond := .code yX1_count cX1_count 1 (some .int) :: ([.fieldLink RX1 16 "ThirdVotes$Receiver" "count" "I"] ++ wsX10)
def wsX1_falseStarts : List Cond := .code yX1_falseStarts cX1_falseStarts 1 (some .int) :: ([.fieldLink RX1 20 "ThirdVotes$Receiver" "falseStarts" "I"] ++ wsX10)
def wsX1_note : List Cond := .code yX1_note cX1_note 3 (some .int) :: ([.fieldLink RX1 16 "ThirdVotes$Receiver" "count" "I", .fieldLink RX1 13 "ThirdVotes$Receiver" "notes" "[[I"] ++ wsX10)
def wsX1_countKind : List Cond := .code yX1_countKind cX1_countKind 4 (some .int) :: ([.fieldLink RX1 16 "ThirdVotes$Receiver" "count" "I", .methodLink RX1 43 yX1_note, .instanceMethod yX1_note, .selects RX1 yX1_note yX1_note, .initialized RX1, .code yX1_note cX1_note 3 (some .int), .fieldLink RX1 13 "ThirdVotes$Receiver" "notes" "[[I"] ++ wsX10)
def wsX1_isGoodWord : List Cond := .code yX1_isGoodWord cX1_isGoodWord 3 (some .boolean) :: ([.methodLink RX1 43 yX1_note, .instanceMethod yX1_note, .selects RX1 yX1_note yX1_note, .initialized RX1, .code yX1_note cX1_note 3 (some .int), .fieldLink RX1 16 "ThirdVotes$Receiver" "count" "I", .fieldLink RX1 13 "ThirdVotes$Receiver" "notes" "[[I"] ++ wsX10)
def wsX1_countGoodWord : List Cond := .code yX1_countGoodWord cX1_countGoodWord 4 (some .int) :: ([.fieldLink RX1 16 "ThirdVotes$Receiver" "count" "I", .methodLink RX1 46 yX1_isGoodWord, .instanceMethod yX1_isGoodWord, .selects RX1 yX1_isGoodWord yX1_isGoodWord, .initialized RX1, .code yX1_isGoodWord cX1_isGoodWord 3 (some .boolean), .methodLink RX1 43 yX1_note, .instanceMethod yX1_note, .selects RX1 yX1_note yX1_note, .code yX1_note cX1_note 3 (some .int), .fieldLink RX1 13 "ThirdVotes$Receiver" "notes" "[[I"] ++ wsX10)
def wsX1_countDoubtful : List Cond := .code yX1_countDoubtful cX1_countDoubtful 3 (some .int) :: ([.fieldLink RX1 16 "ThirdVotes$Receiver" "count" "I", .methodLink RX1 43 yX1_note, .instanceMethod yX1_note, .selects RX1 yX1_note yX1_note, .initialized RX1, .code yX1_note cX1_note 3 (some .int), .fieldLink RX1 13 "ThirdVotes$Receiver" "notes" "[[I"] ++ wsX10)
def wsX2_wordCount : List Cond := .code yX2_wordCount cX2_wordCount 1 (some .int) :: ([.fieldLink RX2 43 "ThirdVotes$State" "wordCount" "I"] ++ wsX20)
def wsX2_wordOfRank : List Cond := .code yX2_wordOfRank cX2_wordOfRank 2 (some .int) :: ([.fieldLink RX2 43 "ThirdVotes$State" "wordCount" "I", .fieldLink RX2 15 "ThirdVotes$State" "words" "[I"] ++ wsX20)
def wsX1_isAllWell : List Cond := .code yX1_isAllWell cX1_isAllWell 3 (some .boolean) :: ([.fieldLink RX1 16 "ThirdVotes$Receiver" "count" "I", .methodLink RX1 50 yX2_wordCount, .instanceMethod yX2_wordCount, .selects RX2 yX2_wordCount yX2_wordCount, .initialized RX2, .code yX2_wordCount cX2_wordCount 1 (some .int), .fieldLink RX2 43 "ThirdVotes$State" "wordCount" "I", .methodLink RX1 53 yX2_wordOfRank, .instanceMethod yX2_wordOfRank, .selects RX2 yX2_wordOfRank yX2_wordOfRank, .code yX2_wordOfRank cX2_wordOfRank 2 (some .int), .fieldLink RX2 15 "ThirdVotes$State" "words" "[I", .methodLink RX1 46 yX1_isGoodWord, .instanceMethod yX1_isGoodWord, .selects RX1 yX1_isGoodWord yX1_isGoodWord, .initialized RX1, .code yX1_isGoodWord cX1_isGoodWord 3 (some .boolean), .methodLink RX1 43 yX1_note, .instanceMethod yX1_note, .selects RX1 yX1_note yX1_note, .code yX1_note cX1_note 3 (some .int), .fieldLink RX1 13 "ThirdVotes$Receiver" "notes" "[[I"] ++ wsX10 ++ wsX20)
def wsX2_change : List Cond := .code yX2_change cX2_change 3 none :: ([.fieldLink RX2 19 "ThirdVotes$State" "settings" "[I"] ++ wsX20)
def wsX2_clearWire : List Cond := .code yX2_clearWire cX2_clearWire 1 none :: ([.fieldLink RX2 11 "ThirdVotes$State" "levels" "[J", .constantLong RX2 22 (-1), .fieldLink RX2 39 "ThirdVotes$State" "end" "I", .fieldLink RX2 43 "ThirdVotes$State" "wordCount" "I", .methodLink RX2 24 yJ7_fill_d0a16, .static yJ7_fill_d0a16, .initialized RJ7, .code yJ7_fill_d0a16 cJ7_fill_d0a16 5 none] ++ wsX20)
def wsX2_hasRoom : List Cond := .code yX2_hasRoom cX2_hasRoom 2 (some .boolean) :: ([.fieldLink RX2 39 "ThirdVotes$State" "end" "I"] ++ wsX20)
def wsX2_bitsOfWord : List Cond := .code yX2_bitsOfWord cX2_bitsOfWord 2 (some .int) :: ([.fieldLink RX2 19 "ThirdVotes$State" "settings" "[I"] ++ wsX20)
def wsX2_ticksOfWord : List Cond := .code yX2_ticksOfWord cX2_ticksOfWord 1 (some .int) :: ([.fieldLink RX2 19 "ThirdVotes$State" "settings" "[I", .methodLink RX2 46 yX2_bitsOfWord, .instanceMethod yX2_bitsOfWord, .selects RX2 yX2_bitsOfWord yX2_bitsOfWord, .initialized RX2, .code yX2_bitsOfWord cX2_bitsOfWord 2 (some .int)] ++ wsX20)
def wsX2_bitsOf : List Cond := .code yX2_bitsOf cX2_bitsOf 4 (some .int) :: ([.fieldLink RX2 19 "ThirdVotes$State" "settings" "[I", .static yX4_parityOf, .initialized RX4, .code yX4_parityOf cX4_parityOf 3 (some .int), .methodLink RX4 175 yJ6_bitCount_0f7a4, .static yJ6_bitCount_0f7a4, .initialized RJ6, .code yJ6_bitCount_0f7a4 cJ6_bitCount_0f7a4 1 (some .int), .constant RJ6 265 (1431655765), .constant RJ6 266 (858993459), .constant RJ6 267 (252645135)] ++ wsX20)
def wsX2_putLow : List Cond := .code yX2_putLow cX2_putLow 4 none :: ([.methodLink RX2 65 Lib.Math.max.name, .static Lib.Math.max.name, .initialized "java/lang/Math", .code Lib.Math.max.name Lib.Math.max.code 2 (some .int), .fieldLink RX2 11 "ThirdVotes$State" "levels" "[J", .constantLong RX2 22 (-1)] ++ wsX20)
def wsX2_addWord_r1 : List Cond := [Cond.fieldLink RX2 43 "ThirdVotes$State" "wordCount" "I", Cond.fieldLink RX2 19 "ThirdVotes$State" "settings" "[I", Cond.fieldLink RX2 39 "ThirdVotes$State" "end" "I", Cond.fieldLink RX2 15 "ThirdVotes$State" "words" "[I", Cond.methodLink RX2 50 yX2_ticksOfWord, Cond.instanceMethod yX2_ticksOfWord, Cond.selects RX2 yX2_ticksOfWord yX2_ticksOfWord, Cond.initialized RX2, Cond.code yX2_ticksOfWord cX2_ticksOfWord 1 (some .int), Cond.methodLink RX2 46 yX2_bitsOfWord, Cond.instanceMethod yX2_bitsOfWord, Cond.selects RX2 yX2_bitsOfWord yX2_bitsOfWord, Cond.code yX2_bitsOfWord cX2_bitsOfWord 2 (some .int), Cond.methodLink RX2 53 yX2_hasRoom, Cond.instanceMethod yX2_hasRoom, Cond.selects RX2 yX2_hasRoom yX2_hasRoom, Cond.code yX2_hasRoom cX2_hasRoom 2 (some .boolean), Cond.methodLink RX2 57 yX2_bitsOf, Cond.instanceMethod yX2_bitsOf, Cond.selects RX2 yX2_bitsOf yX2_bitsOf, Cond.code yX2_bitsOf cX2_bitsOf 4 (some .int), Cond.static yX4_parityOf, Cond.initialized RX4, Cond.code yX4_parityOf cX4_parityOf 3 (some .int)]
def wsX2_addWord_r2 : List Cond := [Cond.methodLink RX4 175 yJ6_bitCount_0f7a4, Cond.static yJ6_bitCount_0f7a4, Cond.initialized RJ6, Cond.code yJ6_bitCount_0f7a4 cJ6_bitCount_0f7a4 1 (some .int), Cond.constant RJ6 265 (1431655765), Cond.constant RJ6 266 (858993459), Cond.constant RJ6 267 (252645135), Cond.methodLink RX2 61 yX2_putLow, Cond.instanceMethod yX2_putLow, Cond.selects RX2 yX2_putLow yX2_putLow, Cond.code yX2_putLow cX2_putLow 4 none, Cond.methodLink RX2 65 Lib.Math.max.name, Cond.static Lib.Math.max.name, Cond.initialized "java/lang/Math", Cond.code Lib.Math.max.name Lib.Math.max.code 2 (some .int), Cond.fieldLink RX2 11 "ThirdVotes$State" "levels" "[J", Cond.constantLong RX2 22 (-1)]
def wsX2_addWord : List Cond := .code yX2_addWord cX2_addWord 7 (some .boolean) :: ((wsX2_addWord_r1 ++ wsX2_addWord_r2) ++ wsX20)
def wsX2_addStretch : List Cond := .code yX2_addStretch cX2_addStretch 3 (some .boolean) :: ([.fieldLink RX2 39 "ThirdVotes$State" "end" "I", .methodLink RX2 53 yX2_hasRoom, .instanceMethod yX2_hasRoom, .selects RX2 yX2_hasRoom yX2_hasRoom, .initialized RX2, .code yX2_hasRoom cX2_hasRoom 2 (some .boolean), .methodLink RX2 61 yX2_putLow, .instanceMethod yX2_putLow, .selects RX2 yX2_putLow yX2_putLow, .code yX2_putLow cX2_putLow 4 none, .methodLink RX2 65 Lib.Math.max.name, .static Lib.Math.max.name, .initialized "java/lang/Math", .code Lib.Math.max.name Lib.Math.max.code 2 (some .int), .fieldLink RX2 11 "ThirdVotes$State" "levels" "[J", .constantLong RX2 22 (-1)] ++ wsX20)
def wsX2_flip : List Cond := .code yX2_flip cX2_flip 5 (some .int) :: ([.methodLink RX2 65 Lib.Math.max.name, .static Lib.Math.max.name, .initialized "java/lang/Math", .code Lib.Math.max.name Lib.Math.max.code 2 (some .int), .fieldLink RX2 39 "ThirdVotes$State" "end" "I", .fieldLink RX2 11 "ThirdVotes$State" "levels" "[J", .methodLink RX2 71 yX2_levelAt, .instanceMethod yX2_levelAt, .selects RX2 yX2_levelAt yX2_levelAt, .initialized RX2, .code yX2_levelAt cX2_levelAt 2 (some .int)] ++ wsX20)
def wsX2_fallOfRank_r1 : List Cond := [Cond.fieldLink RX2 39 "ThirdVotes$State" "end" "I", Cond.methodLink RX2 87 yX2_nextFall, Cond.instanceMethod yX2_nextFall, Cond.selects RX2 yX2_nextFall yX2_nextFall, Cond.initialized RX2, Cond.code yX2_nextFall cX2_nextFall 7 (some .int), Cond.methodLink RX2 65 Lib.Math.max.name, Cond.static Lib.Math.max.name, Cond.initialized "java/lang/Math", Cond.code Lib.Math.max.name Lib.Math.max.code 2 (some .int), Cond.methodLink RX2 74 yX2_fallsIn, Cond.instanceMethod yX2_fallsIn, Cond.selects RX2 yX2_fallsIn yX2_fallsIn, Cond.code yX2_fallsIn cX2_fallsIn 4 (some .long), Cond.fieldLink RX2 11 "ThirdVotes$State" "levels" "[J", Cond.constantLong RX2 22 (-1), Cond.methodLink RX2 78 yJ13_bitCount_95d88, Cond.static yJ13_bitCount_95d88, Cond.initialized RJ13, Cond.code yJ13_bitCount_95d88 cJ13_bitCount_95d88 2 (some .int), Cond.constantLong RJ13 314 (6148914691236517205), Cond.constantLong RJ13 316 (3689348814741910323), Cond.constantLong RJ13 318 (1085102592571150095), Cond.methodLink RX2 84 yX2_behindRow]
def wsX2_fallOfRank_r2 : List Cond := [Cond.static yX2_behindRow, Cond.code yX2_behindRow cX2_behindRow 1 (some .int)]
def wsX2_fallOfRank : List Cond := .code yX2_fallOfRank cX2_fallOfRank 4 (some .int) :: ((wsX2_fallOfRank_r1 ++ wsX2_fallOfRank_r2) ++ wsX20)
def wsX2_countFalls : List Cond := .code yX2_countFalls cX2_countFalls 3 (some .int) :: ([.methodLink RX2 74 yX2_fallsIn, .instanceMethod yX2_fallsIn, .selects RX2 yX2_fallsIn yX2_fallsIn, .initialized RX2, .code yX2_fallsIn cX2_fallsIn 4 (some .long), .fieldLink RX2 11 "ThirdVotes$State" "levels" "[J", .constantLong RX2 22 (-1), .methodLink RX2 78 yJ13_bitCount_95d88, .static yJ13_bitCount_95d88, .initialized RJ13, .code yJ13_bitCount_95d88 cJ13_bitCount_95d88 2 (some .int), .constantLong RJ13 314 (6148914691236517205), .constantLong RJ13 316 (3689348814741910323), .constantLong RJ13 318 (1085102592571150095)] ++ wsX20)
def wsX2_countLowTicks : List Cond := .code yX2_countLowTicks cX2_countLowTicks 3 (some .int) :: ([.fieldLink RX2 11 "ThirdVotes$State" "levels" "[J", .constantLong RX2 22 (-1), .methodLink RX2 78 yJ13_bitCount_95d88, .static yJ13_bitCount_95d88, .initialized RJ13, .code yJ13_bitCount_95d88 cJ13_bitCount_95d88 2 (some .int), .constantLong RJ13 314 (6148914691236517205), .constantLong RJ13 316 (3689348814741910323), .constantLong RJ13 318 (1085102592571150095)] ++ wsX20)
def wsX2_learnedLength_r1 : List Cond := [Cond.methodLink RX2 90 yX2_fallOfRank, Cond.instanceMethod yX2_fallOfRank, Cond.selects RX2 yX2_fallOfRank yX2_fallOfRank, Cond.initialized RX2, Cond.code yX2_fallOfRank cX2_fallOfRank 4 (some .int), Cond.fieldLink RX2 39 "ThirdVotes$State" "end" "I", Cond.methodLink RX2 87 yX2_nextFall, Cond.instanceMethod yX2_nextFall, Cond.selects RX2 yX2_nextFall yX2_nextFall, Cond.code yX2_nextFall cX2_nextFall 7 (some .int), Cond.methodLink RX2 65 Lib.Math.max.name, Cond.static Lib.Math.max.name, Cond.initialized "java/lang/Math", Cond.code Lib.Math.max.name Lib.Math.max.code 2 (some .int), Cond.methodLink RX2 74 yX2_fallsIn, Cond.instanceMethod yX2_fallsIn, Cond.selects RX2 yX2_fallsIn yX2_fallsIn, Cond.code yX2_fallsIn cX2_fallsIn 4 (some .long), Cond.fieldLink RX2 11 "ThirdVotes$State" "levels" "[J", Cond.constantLong RX2 22 (-1), Cond.methodLink RX2 78 yJ13_bitCount_95d88, Cond.static yJ13_bitCount_95d88, Cond.initialized RJ13, Cond.code yJ13_bitCount_95d88 cJ13_bitCount_95d88 2 (some .int)]
def wsX2_learnedLength_r2 : List Cond := [Cond.constantLong RJ13 314 (6148914691236517205), Cond.constantLong RJ13 316 (3689348814741910323), Cond.constantLong RJ13 318 (1085102592571150095), Cond.methodLink RX2 84 yX2_behindRow, Cond.static yX2_behindRow, Cond.code yX2_behindRow cX2_behindRow 1 (some .int)]
def wsX2_learnedLength : List Cond := .code yX2_learnedLength cX2_learnedLength 4 (some .int) :: ((wsX2_learnedLength_r1 ++ wsX2_learnedLength_r2) ++ wsX20)
def wsX3_init : List Cond := .code yX3_init cX3_init 1 none :: ([.methodLink RX3 5 objectInit, .instanceMethod objectInit, .code objectInit ⟨#[0xb1]⟩ 1 none, .arrayClass .char, .fieldLink RX3 11 "ThirdVotes$Text" "characters" "[C", .arrayClass .int, .fieldLink RX3 15 "ThirdVotes$Text" "repeatFrom" "[I", .fieldLink RX3 19 "ThirdVotes$Text" "repeatsLeft" "[I"] ++ wsX30)
def wsX3_length : List Cond := .code yX3_length cX3_length 1 (some .int) :: ([.fieldLink RX3 22 "ThirdVotes$Text" "length" "I"] ++ wsX30)
def wsX3_append : List Cond := .code yX3_append cX3_append 2 (some .boolean) :: ([.fieldLink RX3 22 "ThirdVotes$Text" "length" "I", .fieldLink RX3 11 "ThirdVotes$Text" "characters" "[C"] ++ wsX30)
def wsX3_empty : List Cond := .code yX3_empty cX3_empty 1 none :: ([.fieldLink RX3 22 "ThirdVotes$Text" "length" "I"] ++ wsX30)
def wsX3_characterAt : List Cond := .code yX3_characterAt cX3_characterAt 2 (some .char) :: ([.fieldLink RX3 22 "ThirdVotes$Text" "length" "I", .fieldLink RX3 11 "ThirdVotes$Text" "characters" "[C"] ++ wsX30)
def wsX3_isStretch : List Cond := .code yX3_isStretch cX3_isStretch 1 (some .boolean) :: ([])
def wsX3_isBetween : List Cond := .code yX3_isBetween cX3_isBetween 3 (some .boolean) :: ([])
def wsX3_digit : List Cond := .code yX3_digit cX3_digit 1 (some .int) :: ([.methodLink RX3 61 yX3_isBetween, .static yX3_isBetween, .initialized RX3, .code yX3_isBetween cX3_isBetween 3 (some .boolean)])
def wsX3_placeInItem : List Cond := .code yX3_placeInItem cX3_placeInItem 1 (some .int) :: ([.methodLink RX3 69 yX3_isStretch, .static yX3_isStretch, .initialized RX3, .code yX3_isStretch cX3_isStretch 1 (some .boolean), .methodLink RX3 61 yX3_isBetween, .static yX3_isBetween, .code yX3_isBetween cX3_isBetween 3 (some .boolean), .methodLink RX3 39 yX3_digit, .static yX3_digit, .code yX3_digit cX3_digit 1 (some .int)])
def wsX3_placeBehindDigit : List Cond := .code yX3_placeBehindDigit cX3_placeBehindDigit 1 (some .int) :: ([.methodLink RX3 39 yX3_digit, .static yX3_digit, .initialized RX3, .code yX3_digit cX3_digit 1 (some .int), .methodLink RX3 61 yX3_isBetween, .static yX3_isBetween, .code yX3_isBetween cX3_isBetween 3 (some .boolean)])
def wsX3_placeBehindItem : List Cond := .code yX3_placeBehindItem cX3_placeBehindItem 2 (some .int) :: ([])
def wsX3_placeBehind : List Cond := .code yX3_placeBehind cX3_placeBehind 3 (some .int) :: ([.methodLink RX3 55 yX3_placeInItem, .static yX3_placeInItem, .initialized RX3, .code yX3_placeInItem cX3_placeInItem 1 (some .int), .methodLink RX3 69 yX3_isStretch, .static yX3_isStretch, .code yX3_isStretch cX3_isStretch 1 (some .boolean), .methodLink RX3 61 yX3_isBetween, .static yX3_isBetween, .code yX3_isBetween cX3_isBetween 3 (some .boolean), .methodLink RX3 39 yX3_digit, .static yX3_digit, .code yX3_digit cX3_digit 1 (some .int), .methodLink RX3 58 yX3_placeBehindDigit, .static yX3_placeBehindDigit, .code yX3_placeBehindDigit cX3_placeBehindDigit 1 (some .int), .methodLink RX3 65 yX3_placeBehindItem, .static yX3_placeBehindItem, .code yX3_placeBehindItem cX3_placeBehindItem 2 (some .int)])
def wsX3_fault_r1 : List Cond := [Cond.fieldLink RX3 22 "ThirdVotes$Text" "length" "I", Cond.methodLink RX3 26 yX3_characterAt, Cond.instanceMethod yX3_characterAt, Cond.selects RX3 yX3_characterAt yX3_characterAt, Cond.initialized RX3, Cond.code yX3_characterAt cX3_characterAt 2 (some .char), Cond.fieldLink RX3 11 "ThirdVotes$Text" "characters" "[C", Cond.methodLink RX3 30 yX3_placeBehind, Cond.static yX3_placeBehind, Cond.code yX3_placeBehind cX3_placeBehind 3 (some .int), Cond.methodLink RX3 55 yX3_placeInItem, Cond.static yX3_placeInItem, Cond.code yX3_placeInItem cX3_placeInItem 1 (some .int), Cond.methodLink RX3 69 yX3_isStretch, Cond.static yX3_isStretch, Cond.code yX3_isStretch cX3_isStretch 1 (some .boolean), Cond.methodLink RX3 61 yX3_isBetween, Cond.static yX3_isBetween, Cond.code yX3_isBetween cX3_isBetween 3 (some .boolean), Cond.methodLink RX3 39 yX3_digit, Cond.static yX3_digit, Cond.code yX3_digit cX3_digit 1 (some .int), Cond.methodLink RX3 58 yX3_placeBehindDigit, Cond.static yX3_placeBehindDigit]
def wsX3_fault_r2 : List Cond := [Cond.code yX3_placeBehindDigit cX3_placeBehindDigit 1 (some .int), Cond.methodLink RX3 65 yX3_placeBehindItem, Cond.static yX3_placeBehindItem, Cond.code yX3_placeBehindItem cX3_placeBehindItem 2 (some .int)]
def wsX3_fault : List Cond := .code yX3_fault cX3_fault 5 (some .int) :: ((wsX3_fault_r1 ++ wsX3_fault_r2) ++ wsX30)
def wsX3_isRepeatDue : List Cond := .code yX3_isRepeatDue cX3_isRepeatDue 2 (some .boolean) :: ([.fieldLink RX3 19 "ThirdVotes$Text" "repeatsLeft" "[I"] ++ wsX30)
def wsX3_beginRepeat : List Cond := .code yX3_beginRepeat cX3_beginRepeat 4 (some .boolean) :: ([.fieldLink RX3 15 "ThirdVotes$Text" "repeatFrom" "[I", .fieldLink RX3 19 "ThirdVotes$Text" "repeatsLeft" "[I"] ++ wsX30)
def wsX3_numberAt : List Cond := .code yX3_numberAt cX3_numberAt 4 (some .int) :: ([.methodLink RX3 26 yX3_characterAt, .instanceMethod yX3_characterAt, .selects RX3 yX3_characterAt yX3_characterAt, .initialized RX3, .code yX3_characterAt cX3_characterAt 2 (some .char), .fieldLink RX3 22 "ThirdVotes$Text" "length" "I", .fieldLink RX3 11 "ThirdVotes$Text" "characters" "[C", .methodLink RX3 39 yX3_digit, .static yX3_digit, .code yX3_digit cX3_digit 1 (some .int), .methodLink RX3 61 yX3_isBetween, .static yX3_isBetween, .code yX3_isBetween cX3_isBetween 3 (some .boolean)] ++ wsX30)
def wsX3_sendItem_r1 : List Cond := [Cond.methodLink RX3 26 yX3_characterAt, Cond.instanceMethod yX3_characterAt, Cond.selects RX3 yX3_characterAt yX3_characterAt, Cond.initialized RX3, Cond.code yX3_characterAt cX3_characterAt 2 (some .char), Cond.fieldLink RX3 22 "ThirdVotes$Text" "length" "I", Cond.fieldLink RX3 11 "ThirdVotes$Text" "characters" "[C", Cond.methodLink RX3 69 yX3_isStretch, Cond.static yX3_isStretch, Cond.code yX3_isStretch cX3_isStretch 1 (some .boolean), Cond.methodLink RX3 73 yX3_numberAt, Cond.instanceMethod yX3_numberAt, Cond.selects RX3 yX3_numberAt yX3_numberAt, Cond.code yX3_numberAt cX3_numberAt 4 (some .int), Cond.methodLink RX3 39 yX3_digit, Cond.static yX3_digit, Cond.code yX3_digit cX3_digit 1 (some .int), Cond.methodLink RX3 61 yX3_isBetween, Cond.static yX3_isBetween, Cond.code yX3_isBetween cX3_isBetween 3 (some .boolean), Cond.methodLink RX3 76 yX2_addStretch, Cond.instanceMethod yX2_addStretch, Cond.selects RX2 yX2_addStretch yX2_addStretch, Cond.initialized RX2]
def wsX3_sendItem_r2 : List Cond := [Cond.code yX2_addStretch cX2_addStretch 3 (some .boolean), Cond.fieldLink RX2 39 "ThirdVotes$State" "end" "I", Cond.methodLink RX2 53 yX2_hasRoom, Cond.instanceMethod yX2_hasRoom, Cond.selects RX2 yX2_hasRoom yX2_hasRoom, Cond.code yX2_hasRoom cX2_hasRoom 2 (some .boolean), Cond.methodLink RX2 61 yX2_putLow, Cond.instanceMethod yX2_putLow, Cond.selects RX2 yX2_putLow yX2_putLow, Cond.code yX2_putLow cX2_putLow 4 none, Cond.methodLink RX2 65 Lib.Math.max.name, Cond.static Lib.Math.max.name, Cond.initialized "java/lang/Math", Cond.code Lib.Math.max.name Lib.Math.max.code 2 (some .int), Cond.fieldLink RX2 11 "ThirdVotes$State" "levels" "[J", Cond.constantLong RX2 22 (-1), Cond.methodLink RX3 82 yX2_addWord, Cond.instanceMethod yX2_addWord, Cond.selects RX2 yX2_addWord yX2_addWord, Cond.code yX2_addWord cX2_addWord 7 (some .boolean), Cond.fieldLink RX2 43 "ThirdVotes$State" "wordCount" "I", Cond.fieldLink RX2 19 "ThirdVotes$State" "settings" "[I", Cond.fieldLink RX2 15 "ThirdVotes$State" "words" "[I", Cond.methodLink RX2 50 yX2_ticksOfWord]
def wsX3_sendItem_r3 : List Cond := [Cond.instanceMethod yX2_ticksOfWord, Cond.selects RX2 yX2_ticksOfWord yX2_ticksOfWord, Cond.code yX2_ticksOfWord cX2_ticksOfWord 1 (some .int), Cond.methodLink RX2 46 yX2_bitsOfWord, Cond.instanceMethod yX2_bitsOfWord, Cond.selects RX2 yX2_bitsOfWord yX2_bitsOfWord, Cond.code yX2_bitsOfWord cX2_bitsOfWord 2 (some .int), Cond.methodLink RX2 57 yX2_bitsOf, Cond.instanceMethod yX2_bitsOf, Cond.selects RX2 yX2_bitsOf yX2_bitsOf, Cond.code yX2_bitsOf cX2_bitsOf 4 (some .int), Cond.static yX4_parityOf, Cond.initialized RX4, Cond.code yX4_parityOf cX4_parityOf 3 (some .int), Cond.methodLink RX4 175 yJ6_bitCount_0f7a4, Cond.static yJ6_bitCount_0f7a4, Cond.initialized RJ6, Cond.code yJ6_bitCount_0f7a4 cJ6_bitCount_0f7a4 1 (some .int), Cond.constant RJ6 265 (1431655765), Cond.constant RJ6 266 (858993459), Cond.constant RJ6 267 (252645135)]
def wsX3_sendItem : List Cond := .code yX3_sendItem cX3_sendItem 4 (some .boolean) :: ((wsX3_sendItem_r1 ++ (wsX3_sendItem_r2 ++ wsX3_sendItem_r3)) ++ wsX30 ++ wsX20)
def wsX3_widthOfItem : List Cond := .code yX3_widthOfItem cX3_widthOfItem 3 (some .int) :: ([.methodLink RX3 26 yX3_characterAt, .instanceMethod yX3_characterAt, .selects RX3 yX3_characterAt yX3_characterAt, .initialized RX3, .code yX3_characterAt cX3_characterAt 2 (some .char), .fieldLink RX3 22 "ThirdVotes$Text" "length" "I", .fieldLink RX3 11 "ThirdVotes$Text" "characters" "[C", .methodLink RX3 69 yX3_isStretch, .static yX3_isStretch, .code yX3_isStretch cX3_isStretch 1 (some .boolean), .methodLink RX3 39 yX3_digit, .static yX3_digit, .code yX3_digit cX3_digit 1 (some .int), .methodLink RX3 61 yX3_isBetween, .static yX3_isBetween, .code yX3_isBetween cX3_isBetween 3 (some .boolean)] ++ wsX30)
def wsX3_sendTo_r1 : List Cond := [Cond.constant RX3 34 (1000000), Cond.fieldLink RX3 22 "ThirdVotes$Text" "length" "I", Cond.fieldLink RX3 15 "ThirdVotes$Text" "repeatFrom" "[I", Cond.methodLink RX3 26 yX3_characterAt, Cond.instanceMethod yX3_characterAt, Cond.selects RX3 yX3_characterAt yX3_characterAt, Cond.initialized RX3, Cond.code yX3_characterAt cX3_characterAt 2 (some .char), Cond.fieldLink RX3 11 "ThirdVotes$Text" "characters" "[C", Cond.methodLink RX3 35 yX3_isRepeatDue, Cond.instanceMethod yX3_isRepeatDue, Cond.selects RX3 yX3_isRepeatDue yX3_isRepeatDue, Cond.code yX3_isRepeatDue cX3_isRepeatDue 2 (some .boolean), Cond.fieldLink RX3 19 "ThirdVotes$Text" "repeatsLeft" "[I", Cond.methodLink RX3 39 yX3_digit, Cond.static yX3_digit, Cond.code yX3_digit cX3_digit 1 (some .int), Cond.methodLink RX3 61 yX3_isBetween, Cond.static yX3_isBetween, Cond.code yX3_isBetween cX3_isBetween 3 (some .boolean), Cond.methodLink RX3 43 yX3_beginRepeat, Cond.instanceMethod yX3_beginRepeat, Cond.selects RX3 yX3_beginRepeat yX3_beginRepeat, Cond.code yX3_beginRepeat cX3_beginRepeat 4 (some .boolean)]
def wsX3_sendTo_r2 : List Cond := [Cond.methodLink RX3 47 yX3_sendItem, Cond.instanceMethod yX3_sendItem, Cond.selects RX3 yX3_sendItem yX3_sendItem, Cond.code yX3_sendItem cX3_sendItem 4 (some .boolean), Cond.methodLink RX3 69 yX3_isStretch, Cond.static yX3_isStretch, Cond.code yX3_isStretch cX3_isStretch 1 (some .boolean), Cond.methodLink RX3 73 yX3_numberAt, Cond.instanceMethod yX3_numberAt, Cond.selects RX3 yX3_numberAt yX3_numberAt, Cond.code yX3_numberAt cX3_numberAt 4 (some .int), Cond.methodLink RX3 76 yX2_addStretch, Cond.instanceMethod yX2_addStretch, Cond.selects RX2 yX2_addStretch yX2_addStretch, Cond.initialized RX2, Cond.code yX2_addStretch cX2_addStretch 3 (some .boolean), Cond.fieldLink RX2 39 "ThirdVotes$State" "end" "I", Cond.methodLink RX2 53 yX2_hasRoom, Cond.instanceMethod yX2_hasRoom, Cond.selects RX2 yX2_hasRoom yX2_hasRoom, Cond.code yX2_hasRoom cX2_hasRoom 2 (some .boolean), Cond.methodLink RX2 61 yX2_putLow, Cond.instanceMethod yX2_putLow, Cond.selects RX2 yX2_putLow yX2_putLow]
def wsX3_sendTo_r3 : List Cond := [Cond.code yX2_putLow cX2_putLow 4 none, Cond.methodLink RX2 65 Lib.Math.max.name, Cond.static Lib.Math.max.name, Cond.initialized "java/lang/Math", Cond.code Lib.Math.max.name Lib.Math.max.code 2 (some .int), Cond.fieldLink RX2 11 "ThirdVotes$State" "levels" "[J", Cond.constantLong RX2 22 (-1), Cond.methodLink RX3 82 yX2_addWord, Cond.instanceMethod yX2_addWord, Cond.selects RX2 yX2_addWord yX2_addWord, Cond.code yX2_addWord cX2_addWord 7 (some .boolean), Cond.fieldLink RX2 43 "ThirdVotes$State" "wordCount" "I", Cond.fieldLink RX2 19 "ThirdVotes$State" "settings" "[I", Cond.fieldLink RX2 15 "ThirdVotes$State" "words" "[I", Cond.methodLink RX2 50 yX2_ticksOfWord, Cond.instanceMethod yX2_ticksOfWord, Cond.selects RX2 yX2_ticksOfWord yX2_ticksOfWord, Cond.code yX2_ticksOfWord cX2_ticksOfWord 1 (some .int), Cond.methodLink RX2 46 yX2_bitsOfWord, Cond.instanceMethod yX2_bitsOfWord, Cond.selects RX2 yX2_bitsOfWord yX2_bitsOfWord, Cond.code yX2_bitsOfWord cX2_bitsOfWord 2 (some .int), Cond.methodLink RX2 57 yX2_bitsOf, Cond.instanceMethod yX2_bitsOf]
def wsX3_sendTo_r4 : List Cond := [Cond.selects RX2 yX2_bitsOf yX2_bitsOf, Cond.code yX2_bitsOf cX2_bitsOf 4 (some .int), Cond.static yX4_parityOf, Cond.initialized RX4, Cond.code yX4_parityOf cX4_parityOf 3 (some .int), Cond.methodLink RX4 175 yJ6_bitCount_0f7a4, Cond.static yJ6_bitCount_0f7a4, Cond.initialized RJ6, Cond.code yJ6_bitCount_0f7a4 cJ6_bitCount_0f7a4 1 (some .int), Cond.constant RJ6 265 (1431655765), Cond.constant RJ6 266 (858993459), Cond.constant RJ6 267 (252645135), Cond.methodLink RX3 51 yX3_widthOfItem, Cond.instanceMethod yX3_widthOfItem, Cond.selects RX3 yX3_widthOfItem yX3_widthOfItem, Cond.code yX3_widthOfItem cX3_widthOfItem 3 (some .int)]
def wsX3_sendTo : List Cond := .code yX3_sendTo cX3_sendTo 6 (some .boolean) :: ((wsX3_sendTo_r1 ++ (wsX3_sendTo_r2 ++ (wsX3_sendTo_r3 ++ wsX3_sendTo_r4))) ++ wsX30 ++ wsX20)
def wsX4_init_r1 : List Cond := [Cond.methodLink RX4 3 objectInit, Cond.instanceMethod objectInit, Cond.code objectInit ⟨#[0xb1]⟩ 1 none, Cond.classLink RX4 9 RX2, Cond.instantiable RX2 5, Cond.initialized RX2, Cond.fieldLink RX4 12 "ThirdVotes" "state" "LThirdVotes$State;", Cond.fieldLink RX4 16 "ThirdVotes" "trial" "LThirdVotes$State;", Cond.classLink RX4 19 RX1, Cond.instantiable RX1 4, Cond.initialized RX1, Cond.fieldLink RX4 22 "ThirdVotes" "receiver" "LThirdVotes$Receiver;", Cond.classLink RX4 26 RX3, Cond.instantiable RX3 4, Cond.initialized RX3, Cond.fieldLink RX4 29 "ThirdVotes" "text" "LThirdVotes$Text;", Cond.classLink RX4 33 RX0, Cond.instantiable RX0 4, Cond.initialized RX0, Cond.fieldLink RX4 36 "ThirdVotes" "history" "LThirdVotes$History;", Cond.methodLink RX4 11 yX2_init, Cond.instanceMethod yX2_init, Cond.code yX2_init cX2_init 1 none, Cond.methodLink RX2 5 objectInit]
def wsX4_init_r2 : List Cond := [Cond.arrayClass .long, Cond.fieldLink RX2 11 "ThirdVotes$State" "levels" "[J", Cond.arrayClass .int, Cond.fieldLink RX2 15 "ThirdVotes$State" "words" "[I", Cond.fieldLink RX2 19 "ThirdVotes$State" "settings" "[I", Cond.constantLong RX2 22 (-1), Cond.methodLink RX2 33 arraycopyName, Cond.native arraycopyName, Cond.static arraycopyName, Cond.initialized "java/lang/System", Cond.methodLink RX2 24 yJ7_fill_d0a16, Cond.static yJ7_fill_d0a16, Cond.initialized RJ7, Cond.code yJ7_fill_d0a16 cJ7_fill_d0a16 5 none, Cond.methodLink RX4 21 yX1_init, Cond.instanceMethod yX1_init, Cond.code yX1_init cX1_init 1 none, Cond.methodLink RX1 3 objectInit, Cond.classLink RX1 11 "[[I", Cond.fieldLink RX1 13 "ThirdVotes$Receiver" "notes" "[[I", Cond.methodLink RX4 28 yX3_init, Cond.instanceMethod yX3_init, Cond.code yX3_init cX3_init 1 none, Cond.methodLink RX3 5 objectInit]
def wsX4_init_r3 : List Cond := [Cond.arrayClass .char, Cond.fieldLink RX3 11 "ThirdVotes$Text" "characters" "[C", Cond.fieldLink RX3 15 "ThirdVotes$Text" "repeatFrom" "[I", Cond.fieldLink RX3 19 "ThirdVotes$Text" "repeatsLeft" "[I", Cond.methodLink RX4 35 yX0_init, Cond.instanceMethod yX0_init, Cond.code yX0_init cX0_init 2 none, Cond.methodLink RX0 1 objectInit, Cond.classLink RX0 9 RX2, Cond.fieldLink RX0 11 "ThirdVotes$History" "states" "[LThirdVotes$State;", Cond.fieldLink RX0 16 "ThirdVotes$History" "snapshot" "LThirdVotes$State;", Cond.methodLink RX0 15 yX2_init]
def wsX4_init : List Cond := .code yX4_init cX4_init 1 none :: ((wsX4_init_r1 ++ (wsX4_init_r2 ++ wsX4_init_r3)) ++ wsX20 ++ wsX40 ++ wsX10 ++ wsX30 ++ wsX00)
def wsX4_isWord : List Cond := .code yX4_isWord cX4_isWord 1 (some .boolean) :: ([])
def wsX4_send_r1 : List Cond := [Cond.fieldLink RX4 12 "ThirdVotes" "state" "LThirdVotes$State;", Cond.fieldLink RX4 36 "ThirdVotes" "history" "LThirdVotes$History;", Cond.methodLink RX4 40 yX4_isWord, Cond.static yX4_isWord, Cond.initialized RX4, Cond.code yX4_isWord cX4_isWord 1 (some .boolean), Cond.methodLink RX4 44 yX2_ticksOfWord, Cond.instanceMethod yX2_ticksOfWord, Cond.selects RX2 yX2_ticksOfWord yX2_ticksOfWord, Cond.initialized RX2, Cond.code yX2_ticksOfWord cX2_ticksOfWord 1 (some .int), Cond.fieldLink RX2 19 "ThirdVotes$State" "settings" "[I", Cond.methodLink RX2 46 yX2_bitsOfWord, Cond.instanceMethod yX2_bitsOfWord, Cond.selects RX2 yX2_bitsOfWord yX2_bitsOfWord, Cond.code yX2_bitsOfWord cX2_bitsOfWord 2 (some .int), Cond.methodLink RX4 48 yX2_hasRoom, Cond.instanceMethod yX2_hasRoom, Cond.selects RX2 yX2_hasRoom yX2_hasRoom, Cond.code yX2_hasRoom cX2_hasRoom 2 (some .boolean), Cond.fieldLink RX2 39 "ThirdVotes$State" "end" "I", Cond.methodLink RX4 51 yX0_remember, Cond.instanceMethod yX0_remember, Cond.selects RX0 yX0_remember yX0_remember]
def wsX4_send_r2 : List Cond := [Cond.initialized RX0, Cond.code yX0_remember cX0_remember 2 none, Cond.fieldLink RX0 20 "ThirdVotes$History" "size" "I", Cond.fieldLink RX0 11 "ThirdVotes$History" "states" "[LThirdVotes$State;", Cond.methodLink RX0 28 yX0_dropOldest, Cond.instanceMethod yX0_dropOldest, Cond.selects RX0 yX0_dropOldest yX0_dropOldest, Cond.code yX0_dropOldest cX0_dropOldest 3 none, Cond.methodLink RX0 31 yX2_copyFrom, Cond.instanceMethod yX2_copyFrom, Cond.selects RX2 yX2_copyFrom yX2_copyFrom, Cond.code yX2_copyFrom cX2_copyFrom 2 none, Cond.fieldLink RX2 11 "ThirdVotes$State" "levels" "[J", Cond.methodLink RX2 33 arraycopyName, Cond.native arraycopyName, Cond.static arraycopyName, Cond.initialized "java/lang/System", Cond.fieldLink RX2 15 "ThirdVotes$State" "words" "[I", Cond.fieldLink RX2 43 "ThirdVotes$State" "wordCount" "I", Cond.methodLink RX4 55 yX2_addWord, Cond.instanceMethod yX2_addWord, Cond.selects RX2 yX2_addWord yX2_addWord, Cond.code yX2_addWord cX2_addWord 7 (some .boolean), Cond.methodLink RX2 50 yX2_ticksOfWord]
def wsX4_send_r3 : List Cond := [Cond.methodLink RX2 53 yX2_hasRoom, Cond.methodLink RX2 57 yX2_bitsOf, Cond.instanceMethod yX2_bitsOf, Cond.selects RX2 yX2_bitsOf yX2_bitsOf, Cond.code yX2_bitsOf cX2_bitsOf 4 (some .int), Cond.static yX4_parityOf, Cond.code yX4_parityOf cX4_parityOf 3 (some .int), Cond.methodLink RX4 175 yJ6_bitCount_0f7a4, Cond.static yJ6_bitCount_0f7a4, Cond.initialized RJ6, Cond.code yJ6_bitCount_0f7a4 cJ6_bitCount_0f7a4 1 (some .int), Cond.constant RJ6 265 (1431655765), Cond.constant RJ6 266 (858993459), Cond.constant RJ6 267 (252645135), Cond.methodLink RX2 61 yX2_putLow, Cond.instanceMethod yX2_putLow, Cond.selects RX2 yX2_putLow yX2_putLow, Cond.code yX2_putLow cX2_putLow 4 none, Cond.methodLink RX2 65 Lib.Math.max.name, Cond.static Lib.Math.max.name, Cond.initialized "java/lang/Math", Cond.code Lib.Math.max.name Lib.Math.max.code 2 (some .int), Cond.constantLong RX2 22 (-1), Cond.methodLink RX4 58 yX2_end]
def wsX4_send_r4 : List Cond := [Cond.instanceMethod yX2_end, Cond.selects RX2 yX2_end yX2_end, Cond.code yX2_end cX2_end 1 (some .int)]
def wsX4_send : List Cond := .code yX4_send cX4_send 2 (some .int) :: ((wsX4_send_r1 ++ (wsX4_send_r2 ++ (wsX4_send_r3 ++ wsX4_send_r4))) ++ wsX40 ++ wsX20 ++ wsX00)
def wsX4_sendStretch_r1 : List Cond := [Cond.fieldLink RX4 12 "ThirdVotes" "state" "LThirdVotes$State;", Cond.fieldLink RX4 36 "ThirdVotes" "history" "LThirdVotes$History;", Cond.methodLink RX4 48 yX2_hasRoom, Cond.instanceMethod yX2_hasRoom, Cond.selects RX2 yX2_hasRoom yX2_hasRoom, Cond.initialized RX2, Cond.code yX2_hasRoom cX2_hasRoom 2 (some .boolean), Cond.fieldLink RX2 39 "ThirdVotes$State" "end" "I", Cond.methodLink RX4 51 yX0_remember, Cond.instanceMethod yX0_remember, Cond.selects RX0 yX0_remember yX0_remember, Cond.initialized RX0, Cond.code yX0_remember cX0_remember 2 none, Cond.fieldLink RX0 20 "ThirdVotes$History" "size" "I", Cond.fieldLink RX0 11 "ThirdVotes$History" "states" "[LThirdVotes$State;", Cond.methodLink RX0 28 yX0_dropOldest, Cond.instanceMethod yX0_dropOldest, Cond.selects RX0 yX0_dropOldest yX0_dropOldest, Cond.code yX0_dropOldest cX0_dropOldest 3 none, Cond.methodLink RX0 31 yX2_copyFrom, Cond.instanceMethod yX2_copyFrom, Cond.selects RX2 yX2_copyFrom yX2_copyFrom, Cond.code yX2_copyFrom cX2_copyFrom 2 none, Cond.fieldLink RX2 11 "ThirdVotes$State" "levels" "[J"]
def wsX4_sendStretch_r2 : List Cond := [Cond.methodLink RX2 33 arraycopyName, Cond.native arraycopyName, Cond.static arraycopyName, Cond.initialized "java/lang/System", Cond.fieldLink RX2 15 "ThirdVotes$State" "words" "[I", Cond.fieldLink RX2 19 "ThirdVotes$State" "settings" "[I", Cond.fieldLink RX2 43 "ThirdVotes$State" "wordCount" "I", Cond.methodLink RX4 180 yX2_addStretch, Cond.instanceMethod yX2_addStretch, Cond.selects RX2 yX2_addStretch yX2_addStretch, Cond.code yX2_addStretch cX2_addStretch 3 (some .boolean), Cond.methodLink RX2 53 yX2_hasRoom, Cond.methodLink RX2 61 yX2_putLow, Cond.instanceMethod yX2_putLow, Cond.selects RX2 yX2_putLow yX2_putLow, Cond.code yX2_putLow cX2_putLow 4 none, Cond.methodLink RX2 65 Lib.Math.max.name, Cond.static Lib.Math.max.name, Cond.initialized "java/lang/Math", Cond.code Lib.Math.max.name Lib.Math.max.code 2 (some .int), Cond.constantLong RX2 22 (-1), Cond.methodLink RX4 58 yX2_end, Cond.instanceMethod yX2_end, Cond.selects RX2 yX2_end yX2_end]
def wsX4_sendStretch_r3 : List Cond := [Cond.code yX2_end cX2_end 1 (some .int)]
def wsX4_sendStretch : List Cond := .code yX4_sendStretch cX4_sendStretch 3 (some .int) :: ((wsX4_sendStretch_r1 ++ (wsX4_sendStretch_r2 ++ wsX4_sendStretch_r3)) ++ wsX40 ++ wsX20 ++ wsX00)
def wsX4_pause_r1 : List Cond := [Cond.methodLink RX4 61 yX4_sendStretch, Cond.instanceMethod yX4_sendStretch, Cond.selects RX4 yX4_sendStretch yX4_sendStretch, Cond.initialized RX4, Cond.code yX4_sendStretch cX4_sendStretch 3 (some .int), Cond.fieldLink RX4 12 "ThirdVotes" "state" "LThirdVotes$State;", Cond.fieldLink RX4 36 "ThirdVotes" "history" "LThirdVotes$History;", Cond.methodLink RX4 48 yX2_hasRoom, Cond.instanceMethod yX2_hasRoom, Cond.selects RX2 yX2_hasRoom yX2_hasRoom, Cond.initialized RX2, Cond.code yX2_hasRoom cX2_hasRoom 2 (some .boolean), Cond.fieldLink RX2 39 "ThirdVotes$State" "end" "I", Cond.methodLink RX4 51 yX0_remember, Cond.instanceMethod yX0_remember, Cond.selects RX0 yX0_remember yX0_remember, Cond.initialized RX0, Cond.code yX0_remember cX0_remember 2 none, Cond.fieldLink RX0 20 "ThirdVotes$History" "size" "I", Cond.fieldLink RX0 11 "ThirdVotes$History" "states" "[LThirdVotes$State;", Cond.methodLink RX0 28 yX0_dropOldest, Cond.instanceMethod yX0_dropOldest, Cond.selects RX0 yX0_dropOldest yX0_dropOldest, Cond.code yX0_dropOldest cX0_dropOldest 3 none]
def wsX4_pause_r2 : List Cond := [Cond.methodLink RX0 31 yX2_copyFrom, Cond.instanceMethod yX2_copyFrom, Cond.selects RX2 yX2_copyFrom yX2_copyFrom, Cond.code yX2_copyFrom cX2_copyFrom 2 none, Cond.fieldLink RX2 11 "ThirdVotes$State" "levels" "[J", Cond.methodLink RX2 33 arraycopyName, Cond.native arraycopyName, Cond.static arraycopyName, Cond.initialized "java/lang/System", Cond.fieldLink RX2 15 "ThirdVotes$State" "words" "[I", Cond.fieldLink RX2 19 "ThirdVotes$State" "settings" "[I", Cond.fieldLink RX2 43 "ThirdVotes$State" "wordCount" "I", Cond.methodLink RX4 180 yX2_addStretch, Cond.instanceMethod yX2_addStretch, Cond.selects RX2 yX2_addStretch yX2_addStretch, Cond.code yX2_addStretch cX2_addStretch 3 (some .boolean), Cond.methodLink RX2 53 yX2_hasRoom, Cond.methodLink RX2 61 yX2_putLow, Cond.instanceMethod yX2_putLow, Cond.selects RX2 yX2_putLow yX2_putLow, Cond.code yX2_putLow cX2_putLow 4 none, Cond.methodLink RX2 65 Lib.Math.max.name, Cond.static Lib.Math.max.name, Cond.initialized "java/lang/Math"]
def wsX4_pause_r3 : List Cond := [Cond.code Lib.Math.max.name Lib.Math.max.code 2 (some .int), Cond.constantLong RX2 22 (-1), Cond.methodLink RX4 58 yX2_end, Cond.instanceMethod yX2_end, Cond.selects RX2 yX2_end yX2_end, Cond.code yX2_end cX2_end 1 (some .int)]
def wsX4_pause : List Cond := .code yX4_pause cX4_pause 2 (some .int) :: ((wsX4_pause_r1 ++ (wsX4_pause_r2 ++ wsX4_pause_r3)) ++ wsX40 ++ wsX20 ++ wsX00)
def wsX4_sendBreak_r1 : List Cond := [Cond.methodLink RX4 61 yX4_sendStretch, Cond.instanceMethod yX4_sendStretch, Cond.selects RX4 yX4_sendStretch yX4_sendStretch, Cond.initialized RX4, Cond.code yX4_sendStretch cX4_sendStretch 3 (some .int), Cond.fieldLink RX4 12 "ThirdVotes" "state" "LThirdVotes$State;", Cond.fieldLink RX4 36 "ThirdVotes" "history" "LThirdVotes$History;", Cond.methodLink RX4 48 yX2_hasRoom, Cond.instanceMethod yX2_hasRoom, Cond.selects RX2 yX2_hasRoom yX2_hasRoom, Cond.initialized RX2, Cond.code yX2_hasRoom cX2_hasRoom 2 (some .boolean), Cond.fieldLink RX2 39 "ThirdVotes$State" "end" "I", Cond.methodLink RX4 51 yX0_remember, Cond.instanceMethod yX0_remember, Cond.selects RX0 yX0_remember yX0_remember, Cond.initialized RX0, Cond.code yX0_remember cX0_remember 2 none, Cond.fieldLink RX0 20 "ThirdVotes$History" "size" "I", Cond.fieldLink RX0 11 "ThirdVotes$History" "states" "[LThirdVotes$State;", Cond.methodLink RX0 28 yX0_dropOldest, Cond.instanceMethod yX0_dropOldest, Cond.selects RX0 yX0_dropOldest yX0_dropOldest, Cond.code yX0_dropOldest cX0_dropOldest 3 none]
def wsX4_sendBreak_r2 : List Cond := [Cond.methodLink RX0 31 yX2_copyFrom, Cond.instanceMethod yX2_copyFrom, Cond.selects RX2 yX2_copyFrom yX2_copyFrom, Cond.code yX2_copyFrom cX2_copyFrom 2 none, Cond.fieldLink RX2 11 "ThirdVotes$State" "levels" "[J", Cond.methodLink RX2 33 arraycopyName, Cond.native arraycopyName, Cond.static arraycopyName, Cond.initialized "java/lang/System", Cond.fieldLink RX2 15 "ThirdVotes$State" "words" "[I", Cond.fieldLink RX2 19 "ThirdVotes$State" "settings" "[I", Cond.fieldLink RX2 43 "ThirdVotes$State" "wordCount" "I", Cond.methodLink RX4 180 yX2_addStretch, Cond.instanceMethod yX2_addStretch, Cond.selects RX2 yX2_addStretch yX2_addStretch, Cond.code yX2_addStretch cX2_addStretch 3 (some .boolean), Cond.methodLink RX2 53 yX2_hasRoom, Cond.methodLink RX2 61 yX2_putLow, Cond.instanceMethod yX2_putLow, Cond.selects RX2 yX2_putLow yX2_putLow, Cond.code yX2_putLow cX2_putLow 4 none, Cond.methodLink RX2 65 Lib.Math.max.name, Cond.static Lib.Math.max.name, Cond.initialized "java/lang/Math"]
def wsX4_sendBreak_r3 : List Cond := [Cond.code Lib.Math.max.name Lib.Math.max.code 2 (some .int), Cond.constantLong RX2 22 (-1), Cond.methodLink RX4 58 yX2_end, Cond.instanceMethod yX2_end, Cond.selects RX2 yX2_end yX2_end, Cond.code yX2_end cX2_end 1 (some .int)]
def wsX4_sendBreak : List Cond := .code yX4_sendBreak cX4_sendBreak 2 (some .int) :: ((wsX4_sendBreak_r1 ++ (wsX4_sendBreak_r2 ++ wsX4_sendBreak_r3)) ++ wsX40 ++ wsX20 ++ wsX00)
def wsX4_isDisturbance : List Cond := .code yX4_isDisturbance cX4_isDisturbance 1 (some .boolean) :: ([])
def wsX4_disturb_r1 : List Cond := [Cond.fieldLink RX4 12 "ThirdVotes" "state" "LThirdVotes$State;", Cond.fieldLink RX4 36 "ThirdVotes" "history" "LThirdVotes$History;", Cond.methodLink RX4 65 yX4_isDisturbance, Cond.static yX4_isDisturbance, Cond.initialized RX4, Cond.code yX4_isDisturbance cX4_isDisturbance 1 (some .boolean), Cond.methodLink RX4 58 yX2_end, Cond.instanceMethod yX2_end, Cond.selects RX2 yX2_end yX2_end, Cond.initialized RX2, Cond.code yX2_end cX2_end 1 (some .int), Cond.fieldLink RX2 39 "ThirdVotes$State" "end" "I", Cond.methodLink RX4 51 yX0_remember, Cond.instanceMethod yX0_remember, Cond.selects RX0 yX0_remember yX0_remember, Cond.initialized RX0, Cond.code yX0_remember cX0_remember 2 none, Cond.fieldLink RX0 20 "ThirdVotes$History" "size" "I", Cond.fieldLink RX0 11 "ThirdVotes$History" "states" "[LThirdVotes$State;", Cond.methodLink RX0 28 yX0_dropOldest, Cond.instanceMethod yX0_dropOldest, Cond.selects RX0 yX0_dropOldest yX0_dropOldest, Cond.code yX0_dropOldest cX0_dropOldest 3 none, Cond.methodLink RX0 31 yX2_copyFrom]
def wsX4_disturb_r2 : List Cond := [Cond.instanceMethod yX2_copyFrom, Cond.selects RX2 yX2_copyFrom yX2_copyFrom, Cond.code yX2_copyFrom cX2_copyFrom 2 none, Cond.fieldLink RX2 11 "ThirdVotes$State" "levels" "[J", Cond.methodLink RX2 33 arraycopyName, Cond.native arraycopyName, Cond.static arraycopyName, Cond.initialized "java/lang/System", Cond.fieldLink RX2 15 "ThirdVotes$State" "words" "[I", Cond.fieldLink RX2 19 "ThirdVotes$State" "settings" "[I", Cond.fieldLink RX2 43 "ThirdVotes$State" "wordCount" "I", Cond.methodLink RX4 68 yX2_flip, Cond.instanceMethod yX2_flip, Cond.selects RX2 yX2_flip yX2_flip, Cond.code yX2_flip cX2_flip 5 (some .int), Cond.methodLink RX2 65 Lib.Math.max.name, Cond.static Lib.Math.max.name, Cond.initialized "java/lang/Math", Cond.code Lib.Math.max.name Lib.Math.max.code 2 (some .int), Cond.methodLink RX2 71 yX2_levelAt, Cond.instanceMethod yX2_levelAt, Cond.selects RX2 yX2_levelAt yX2_levelAt, Cond.code yX2_levelAt cX2_levelAt 2 (some .int)]
def wsX4_disturb : List Cond := .code yX4_disturb cX4_disturb 3 (some .int) :: ((wsX4_disturb_r1 ++ wsX4_disturb_r2) ++ wsX40 ++ wsX20 ++ wsX00)
def wsX4_clear_r1 : List Cond := [Cond.fieldLink RX4 12 "ThirdVotes" "state" "LThirdVotes$State;", Cond.fieldLink RX4 36 "ThirdVotes" "history" "LThirdVotes$History;", Cond.methodLink RX4 58 yX2_end, Cond.instanceMethod yX2_end, Cond.selects RX2 yX2_end yX2_end, Cond.initialized RX2, Cond.code yX2_end cX2_end 1 (some .int), Cond.fieldLink RX2 39 "ThirdVotes$State" "end" "I", Cond.methodLink RX4 51 yX0_remember, Cond.instanceMethod yX0_remember, Cond.selects RX0 yX0_remember yX0_remember, Cond.initialized RX0, Cond.code yX0_remember cX0_remember 2 none, Cond.fieldLink RX0 20 "ThirdVotes$History" "size" "I", Cond.fieldLink RX0 11 "ThirdVotes$History" "states" "[LThirdVotes$State;", Cond.methodLink RX0 28 yX0_dropOldest, Cond.instanceMethod yX0_dropOldest, Cond.selects RX0 yX0_dropOldest yX0_dropOldest, Cond.code yX0_dropOldest cX0_dropOldest 3 none, Cond.methodLink RX0 31 yX2_copyFrom, Cond.instanceMethod yX2_copyFrom, Cond.selects RX2 yX2_copyFrom yX2_copyFrom, Cond.code yX2_copyFrom cX2_copyFrom 2 none, Cond.fieldLink RX2 11 "ThirdVotes$State" "levels" "[J"]
def wsX4_clear_r2 : List Cond := [Cond.methodLink RX2 33 arraycopyName, Cond.native arraycopyName, Cond.static arraycopyName, Cond.initialized "java/lang/System", Cond.fieldLink RX2 15 "ThirdVotes$State" "words" "[I", Cond.fieldLink RX2 19 "ThirdVotes$State" "settings" "[I", Cond.fieldLink RX2 43 "ThirdVotes$State" "wordCount" "I", Cond.methodLink RX4 71 yX2_clearWire, Cond.instanceMethod yX2_clearWire, Cond.selects RX2 yX2_clearWire yX2_clearWire, Cond.code yX2_clearWire cX2_clearWire 1 none, Cond.constantLong RX2 22 (-1), Cond.methodLink RX2 24 yJ7_fill_d0a16, Cond.static yJ7_fill_d0a16, Cond.initialized RJ7, Cond.code yJ7_fill_d0a16 cJ7_fill_d0a16 5 none]
def wsX4_clear : List Cond := .code yX4_clear cX4_clear 2 (some .int) :: ((wsX4_clear_r1 ++ wsX4_clear_r2) ++ wsX40 ++ wsX20 ++ wsX00)
def wsX4_set_r1 : List Cond := [Cond.fieldLink RX4 74 "ThirdVotes" "LEAST_VALUES" "[I", Cond.fieldLink RX4 78 "ThirdVotes" "GREATEST_VALUES" "[I", Cond.fieldLink RX4 12 "ThirdVotes" "state" "LThirdVotes$State;", Cond.fieldLink RX4 36 "ThirdVotes" "history" "LThirdVotes$History;", Cond.methodLink RX4 81 yX2_setting, Cond.instanceMethod yX2_setting, Cond.selects RX2 yX2_setting yX2_setting, Cond.initialized RX2, Cond.code yX2_setting cX2_setting 2 (some .int), Cond.fieldLink RX2 19 "ThirdVotes$State" "settings" "[I", Cond.methodLink RX4 51 yX0_remember, Cond.instanceMethod yX0_remember, Cond.selects RX0 yX0_remember yX0_remember, Cond.initialized RX0, Cond.code yX0_remember cX0_remember 2 none, Cond.fieldLink RX0 20 "ThirdVotes$History" "size" "I", Cond.fieldLink RX0 11 "ThirdVotes$History" "states" "[LThirdVotes$State;", Cond.methodLink RX0 28 yX0_dropOldest, Cond.instanceMethod yX0_dropOldest, Cond.selects RX0 yX0_dropOldest yX0_dropOldest, Cond.code yX0_dropOldest cX0_dropOldest 3 none, Cond.methodLink RX0 31 yX2_copyFrom, Cond.instanceMethod yX2_copyFrom, Cond.selects RX2 yX2_copyFrom yX2_copyFrom]
def wsX4_set_r2 : List Cond := [Cond.code yX2_copyFrom cX2_copyFrom 2 none, Cond.fieldLink RX2 11 "ThirdVotes$State" "levels" "[J", Cond.methodLink RX2 33 arraycopyName, Cond.native arraycopyName, Cond.static arraycopyName, Cond.initialized "java/lang/System", Cond.fieldLink RX2 15 "ThirdVotes$State" "words" "[I", Cond.fieldLink RX2 39 "ThirdVotes$State" "end" "I", Cond.fieldLink RX2 43 "ThirdVotes$State" "wordCount" "I", Cond.methodLink RX4 85 yX2_change, Cond.instanceMethod yX2_change, Cond.selects RX2 yX2_change yX2_change, Cond.code yX2_change cX2_change 3 none]
def wsX4_set : List Cond := .code yX4_set cX4_set 4 (some .int) :: ((wsX4_set_r1 ++ wsX4_set_r2) ++ wsX40 ++ wsX20 ++ wsX00)
def wsX4_learn_r1 : List Cond := [Cond.fieldLink RX4 12 "ThirdVotes" "state" "LThirdVotes$State;", Cond.fieldLink RX4 36 "ThirdVotes" "history" "LThirdVotes$History;", Cond.methodLink RX4 89 yX2_learnedLength, Cond.instanceMethod yX2_learnedLength, Cond.selects RX2 yX2_learnedLength yX2_learnedLength, Cond.initialized RX2, Cond.code yX2_learnedLength cX2_learnedLength 4 (some .int), Cond.methodLink RX2 90 yX2_fallOfRank, Cond.instanceMethod yX2_fallOfRank, Cond.selects RX2 yX2_fallOfRank yX2_fallOfRank, Cond.code yX2_fallOfRank cX2_fallOfRank 4 (some .int), Cond.fieldLink RX2 39 "ThirdVotes$State" "end" "I", Cond.methodLink RX2 87 yX2_nextFall, Cond.instanceMethod yX2_nextFall, Cond.selects RX2 yX2_nextFall yX2_nextFall, Cond.code yX2_nextFall cX2_nextFall 7 (some .int), Cond.methodLink RX2 65 Lib.Math.max.name, Cond.static Lib.Math.max.name, Cond.initialized "java/lang/Math", Cond.code Lib.Math.max.name Lib.Math.max.code 2 (some .int), Cond.methodLink RX2 74 yX2_fallsIn, Cond.instanceMethod yX2_fallsIn, Cond.selects RX2 yX2_fallsIn yX2_fallsIn, Cond.code yX2_fallsIn cX2_fallsIn 4 (some .long)]
def wsX4_learn_r2 : List Cond := [Cond.fieldLink RX2 11 "ThirdVotes$State" "levels" "[J", Cond.constantLong RX2 22 (-1), Cond.methodLink RX2 78 yJ13_bitCount_95d88, Cond.static yJ13_bitCount_95d88, Cond.initialized RJ13, Cond.code yJ13_bitCount_95d88 cJ13_bitCount_95d88 2 (some .int), Cond.constantLong RJ13 314 (6148914691236517205), Cond.constantLong RJ13 316 (3689348814741910323), Cond.constantLong RJ13 318 (1085102592571150095), Cond.methodLink RX2 84 yX2_behindRow, Cond.static yX2_behindRow, Cond.code yX2_behindRow cX2_behindRow 1 (some .int), Cond.methodLink RX4 81 yX2_setting, Cond.instanceMethod yX2_setting, Cond.selects RX2 yX2_setting yX2_setting, Cond.code yX2_setting cX2_setting 2 (some .int), Cond.fieldLink RX2 19 "ThirdVotes$State" "settings" "[I", Cond.methodLink RX4 51 yX0_remember, Cond.instanceMethod yX0_remember, Cond.selects RX0 yX0_remember yX0_remember, Cond.initialized RX0, Cond.code yX0_remember cX0_remember 2 none, Cond.fieldLink RX0 20 "ThirdVotes$History" "size" "I", Cond.fieldLink RX0 11 "ThirdVotes$History" "states" "[LThirdVotes$State;"]
def wsX4_learn_r3 : List Cond := [Cond.methodLink RX0 28 yX0_dropOldest, Cond.instanceMethod yX0_dropOldest, Cond.selects RX0 yX0_dropOldest yX0_dropOldest, Cond.code yX0_dropOldest cX0_dropOldest 3 none, Cond.methodLink RX0 31 yX2_copyFrom, Cond.instanceMethod yX2_copyFrom, Cond.selects RX2 yX2_copyFrom yX2_copyFrom, Cond.code yX2_copyFrom cX2_copyFrom 2 none, Cond.methodLink RX2 33 arraycopyName, Cond.native arraycopyName, Cond.static arraycopyName, Cond.initialized "java/lang/System", Cond.fieldLink RX2 15 "ThirdVotes$State" "words" "[I", Cond.fieldLink RX2 43 "ThirdVotes$State" "wordCount" "I", Cond.methodLink RX4 85 yX2_change, Cond.instanceMethod yX2_change, Cond.selects RX2 yX2_change yX2_change, Cond.code yX2_change cX2_change 3 none]
def wsX4_learn : List Cond := .code yX4_learn cX4_learn 2 (some .int) :: ((wsX4_learn_r1 ++ (wsX4_learn_r2 ++ wsX4_learn_r3)) ++ wsX40 ++ wsX20 ++ wsX00)
def wsX4_type : List Cond := .code yX4_type cX4_type 2 (some .int) :: ([.fieldLink RX4 29 "ThirdVotes" "text" "LThirdVotes$Text;", .methodLink RX4 92 yX3_append, .instanceMethod yX3_append, .selects RX3 yX3_append yX3_append, .initialized RX3, .code yX3_append cX3_append 2 (some .boolean), .fieldLink RX3 22 "ThirdVotes$Text" "length" "I", .fieldLink RX3 11 "ThirdVotes$Text" "characters" "[C", .methodLink RX4 96 yX3_length, .instanceMethod yX3_length, .selects RX3 yX3_length yX3_length, .code yX3_length cX3_length 1 (some .int)] ++ wsX40 ++ wsX30)
def wsX4_clearText : List Cond := .code yX4_clearText cX4_clearText 2 (some .int) :: ([.fieldLink RX4 29 "ThirdVotes" "text" "LThirdVotes$Text;", .methodLink RX4 96 yX3_length, .instanceMethod yX3_length, .selects RX3 yX3_length yX3_length, .initialized RX3, .code yX3_length cX3_length 1 (some .int), .fieldLink RX3 22 "ThirdVotes$Text" "length" "I", .methodLink RX4 99 yX3_empty, .instanceMethod yX3_empty, .selects RX3 yX3_empty yX3_empty, .code yX3_empty cX3_empty 1 none] ++ wsX40 ++ wsX30)
def wsX4_perform_r1 : List Cond := [Cond.fieldLink RX4 29 "ThirdVotes" "text" "LThirdVotes$Text;", Cond.fieldLink RX4 16 "ThirdVotes" "trial" "LThirdVotes$State;", Cond.fieldLink RX4 12 "ThirdVotes" "state" "LThirdVotes$State;", Cond.fieldLink RX4 36 "ThirdVotes" "history" "LThirdVotes$History;", Cond.methodLink RX4 102 yX3_fault, Cond.instanceMethod yX3_fault, Cond.selects RX3 yX3_fault yX3_fault, Cond.initialized RX3, Cond.code yX3_fault cX3_fault 5 (some .int), Cond.fieldLink RX3 22 "ThirdVotes$Text" "length" "I", Cond.methodLink RX3 26 yX3_characterAt, Cond.instanceMethod yX3_characterAt, Cond.selects RX3 yX3_characterAt yX3_characterAt, Cond.code yX3_characterAt cX3_characterAt 2 (some .char), Cond.fieldLink RX3 11 "ThirdVotes$Text" "characters" "[C", Cond.methodLink RX3 30 yX3_placeBehind, Cond.static yX3_placeBehind, Cond.code yX3_placeBehind cX3_placeBehind 3 (some .int), Cond.methodLink RX3 55 yX3_placeInItem, Cond.static yX3_placeInItem, Cond.code yX3_placeInItem cX3_placeInItem 1 (some .int), Cond.methodLink RX3 69 yX3_isStretch, Cond.static yX3_isStretch, Cond.code yX3_isStretch cX3_isStretch 1 (some .boolean)]
def wsX4_perform_r2 : List Cond := [Cond.methodLink RX3 61 yX3_isBetween, Cond.static yX3_isBetween, Cond.code yX3_isBetween cX3_isBetween 3 (some .boolean), Cond.methodLink RX3 39 yX3_digit, Cond.static yX3_digit, Cond.code yX3_digit cX3_digit 1 (some .int), Cond.methodLink RX3 58 yX3_placeBehindDigit, Cond.static yX3_placeBehindDigit, Cond.code yX3_placeBehindDigit cX3_placeBehindDigit 1 (some .int), Cond.methodLink RX3 65 yX3_placeBehindItem, Cond.static yX3_placeBehindItem, Cond.code yX3_placeBehindItem cX3_placeBehindItem 2 (some .int), Cond.methodLink RX4 105 yX2_copyFrom, Cond.instanceMethod yX2_copyFrom, Cond.selects RX2 yX2_copyFrom yX2_copyFrom, Cond.initialized RX2, Cond.code yX2_copyFrom cX2_copyFrom 2 none, Cond.fieldLink RX2 11 "ThirdVotes$State" "levels" "[J", Cond.methodLink RX2 33 arraycopyName, Cond.native arraycopyName, Cond.static arraycopyName, Cond.initialized "java/lang/System", Cond.fieldLink RX2 15 "ThirdVotes$State" "words" "[I", Cond.fieldLink RX2 19 "ThirdVotes$State" "settings" "[I"]
def wsX4_perform_r3 : List Cond := [Cond.fieldLink RX2 39 "ThirdVotes$State" "end" "I", Cond.fieldLink RX2 43 "ThirdVotes$State" "wordCount" "I", Cond.methodLink RX4 108 yX3_sendTo, Cond.instanceMethod yX3_sendTo, Cond.selects RX3 yX3_sendTo yX3_sendTo, Cond.code yX3_sendTo cX3_sendTo 6 (some .boolean), Cond.constant RX3 34 (1000000), Cond.fieldLink RX3 15 "ThirdVotes$Text" "repeatFrom" "[I", Cond.methodLink RX3 35 yX3_isRepeatDue, Cond.instanceMethod yX3_isRepeatDue, Cond.selects RX3 yX3_isRepeatDue yX3_isRepeatDue, Cond.code yX3_isRepeatDue cX3_isRepeatDue 2 (some .boolean), Cond.fieldLink RX3 19 "ThirdVotes$Text" "repeatsLeft" "[I", Cond.methodLink RX3 43 yX3_beginRepeat, Cond.instanceMethod yX3_beginRepeat, Cond.selects RX3 yX3_beginRepeat yX3_beginRepeat, Cond.code yX3_beginRepeat cX3_beginRepeat 4 (some .boolean), Cond.methodLink RX3 47 yX3_sendItem, Cond.instanceMethod yX3_sendItem, Cond.selects RX3 yX3_sendItem yX3_sendItem, Cond.code yX3_sendItem cX3_sendItem 4 (some .boolean), Cond.methodLink RX3 73 yX3_numberAt, Cond.instanceMethod yX3_numberAt, Cond.selects RX3 yX3_numberAt yX3_numberAt]
def wsX4_perform_r4 : List Cond := [Cond.code yX3_numberAt cX3_numberAt 4 (some .int), Cond.methodLink RX3 76 yX2_addStretch, Cond.instanceMethod yX2_addStretch, Cond.selects RX2 yX2_addStretch yX2_addStretch, Cond.code yX2_addStretch cX2_addStretch 3 (some .boolean), Cond.methodLink RX2 53 yX2_hasRoom, Cond.instanceMethod yX2_hasRoom, Cond.selects RX2 yX2_hasRoom yX2_hasRoom, Cond.code yX2_hasRoom cX2_hasRoom 2 (some .boolean), Cond.methodLink RX2 61 yX2_putLow, Cond.instanceMethod yX2_putLow, Cond.selects RX2 yX2_putLow yX2_putLow, Cond.code yX2_putLow cX2_putLow 4 none, Cond.methodLink RX2 65 Lib.Math.max.name, Cond.static Lib.Math.max.name, Cond.initialized "java/lang/Math", Cond.code Lib.Math.max.name Lib.Math.max.code 2 (some .int), Cond.constantLong RX2 22 (-1), Cond.methodLink RX3 82 yX2_addWord, Cond.instanceMethod yX2_addWord, Cond.selects RX2 yX2_addWord yX2_addWord, Cond.code yX2_addWord cX2_addWord 7 (some .boolean), Cond.methodLink RX2 50 yX2_ticksOfWord, Cond.instanceMethod yX2_ticksOfWord]
def wsX4_perform_r5 : List Cond := [Cond.selects RX2 yX2_ticksOfWord yX2_ticksOfWord, Cond.code yX2_ticksOfWord cX2_ticksOfWord 1 (some .int), Cond.methodLink RX2 46 yX2_bitsOfWord, Cond.instanceMethod yX2_bitsOfWord, Cond.selects RX2 yX2_bitsOfWord yX2_bitsOfWord, Cond.code yX2_bitsOfWord cX2_bitsOfWord 2 (some .int), Cond.methodLink RX2 57 yX2_bitsOf, Cond.instanceMethod yX2_bitsOf, Cond.selects RX2 yX2_bitsOf yX2_bitsOf, Cond.code yX2_bitsOf cX2_bitsOf 4 (some .int), Cond.static yX4_parityOf, Cond.initialized RX4, Cond.code yX4_parityOf cX4_parityOf 3 (some .int), Cond.methodLink RX4 175 yJ6_bitCount_0f7a4, Cond.static yJ6_bitCount_0f7a4, Cond.initialized RJ6, Cond.code yJ6_bitCount_0f7a4 cJ6_bitCount_0f7a4 1 (some .int), Cond.constant RJ6 265 (1431655765), Cond.constant RJ6 266 (858993459), Cond.constant RJ6 267 (252645135), Cond.methodLink RX3 51 yX3_widthOfItem, Cond.instanceMethod yX3_widthOfItem, Cond.selects RX3 yX3_widthOfItem yX3_widthOfItem, Cond.code yX3_widthOfItem cX3_widthOfItem 3 (some .int)]
def wsX4_perform_r6 : List Cond := [Cond.methodLink RX4 51 yX0_remember, Cond.instanceMethod yX0_remember, Cond.selects RX0 yX0_remember yX0_remember, Cond.initialized RX0, Cond.code yX0_remember cX0_remember 2 none, Cond.fieldLink RX0 20 "ThirdVotes$History" "size" "I", Cond.fieldLink RX0 11 "ThirdVotes$History" "states" "[LThirdVotes$State;", Cond.methodLink RX0 28 yX0_dropOldest, Cond.instanceMethod yX0_dropOldest, Cond.selects RX0 yX0_dropOldest yX0_dropOldest, Cond.code yX0_dropOldest cX0_dropOldest 3 none, Cond.methodLink RX0 31 yX2_copyFrom, Cond.methodLink RX4 58 yX2_end, Cond.instanceMethod yX2_end, Cond.selects RX2 yX2_end yX2_end, Cond.code yX2_end cX2_end 1 (some .int)]
def wsX4_perform : List Cond := .code yX4_perform cX4_perform 2 (some .int) :: ((wsX4_perform_r1 ++ (wsX4_perform_r2 ++ (wsX4_perform_r3 ++ (wsX4_perform_r4 ++ (wsX4_perform_r5 ++ wsX4_perform_r6))))) ++ wsX40 ++ wsX30 ++ wsX20 ++ wsX00)
def wsX4_undo_r1 : List Cond := [Cond.fieldLink RX4 36 "ThirdVotes" "history" "LThirdVotes$History;", Cond.fieldLink RX4 12 "ThirdVotes" "state" "LThirdVotes$State;", Cond.methodLink RX4 112 yX0_takeBack, Cond.instanceMethod yX0_takeBack, Cond.selects RX0 yX0_takeBack yX0_takeBack, Cond.initialized RX0, Cond.code yX0_takeBack cX0_takeBack 2 (some .boolean), Cond.fieldLink RX0 20 "ThirdVotes$History" "size" "I", Cond.fieldLink RX0 11 "ThirdVotes$History" "states" "[LThirdVotes$State;", Cond.methodLink RX0 31 yX2_copyFrom, Cond.instanceMethod yX2_copyFrom, Cond.selects RX2 yX2_copyFrom yX2_copyFrom, Cond.initialized RX2, Cond.code yX2_copyFrom cX2_copyFrom 2 none, Cond.fieldLink RX2 11 "ThirdVotes$State" "levels" "[J", Cond.methodLink RX2 33 arraycopyName, Cond.native arraycopyName, Cond.static arraycopyName, Cond.initialized "java/lang/System", Cond.fieldLink RX2 15 "ThirdVotes$State" "words" "[I", Cond.fieldLink RX2 19 "ThirdVotes$State" "settings" "[I", Cond.fieldLink RX2 39 "ThirdVotes$State" "end" "I", Cond.fieldLink RX2 43 "ThirdVotes$State" "wordCount" "I", Cond.methodLink RX4 115 yX0_size]
def wsX4_undo_r2 : List Cond := [Cond.instanceMethod yX0_size, Cond.selects RX0 yX0_size yX0_size, Cond.code yX0_size cX0_size 1 (some .int)]
def wsX4_undo : List Cond := .code yX4_undo cX4_undo 1 (some .int) :: ((wsX4_undo_r1 ++ wsX4_undo_r2) ++ wsX40 ++ wsX00 ++ wsX20)
def wsX4_keep_r1 : List Cond := [Cond.fieldLink RX4 36 "ThirdVotes" "history" "LThirdVotes$History;", Cond.fieldLink RX4 12 "ThirdVotes" "state" "LThirdVotes$State;", Cond.methodLink RX4 118 yX0_takeSnapshot, Cond.instanceMethod yX0_takeSnapshot, Cond.selects RX0 yX0_takeSnapshot yX0_takeSnapshot, Cond.initialized RX0, Cond.code yX0_takeSnapshot cX0_takeSnapshot 2 none, Cond.fieldLink RX0 16 "ThirdVotes$History" "snapshot" "LThirdVotes$State;", Cond.fieldLink RX0 24 "ThirdVotes$History" "hasSnapshot" "Z", Cond.methodLink RX0 31 yX2_copyFrom, Cond.instanceMethod yX2_copyFrom, Cond.selects RX2 yX2_copyFrom yX2_copyFrom, Cond.initialized RX2, Cond.code yX2_copyFrom cX2_copyFrom 2 none, Cond.fieldLink RX2 11 "ThirdVotes$State" "levels" "[J", Cond.methodLink RX2 33 arraycopyName, Cond.native arraycopyName, Cond.static arraycopyName, Cond.initialized "java/lang/System", Cond.fieldLink RX2 15 "ThirdVotes$State" "words" "[I", Cond.fieldLink RX2 19 "ThirdVotes$State" "settings" "[I", Cond.fieldLink RX2 39 "ThirdVotes$State" "end" "I", Cond.fieldLink RX2 43 "ThirdVotes$State" "wordCount" "I", Cond.methodLink RX4 58 yX2_end]
def wsX4_keep_r2 : List Cond := [Cond.instanceMethod yX2_end, Cond.selects RX2 yX2_end yX2_end, Cond.code yX2_end cX2_end 1 (some .int)]
def wsX4_keep : List Cond := .code yX4_keep cX4_keep 1 (some .int) :: ((wsX4_keep_r1 ++ wsX4_keep_r2) ++ wsX40 ++ wsX00 ++ wsX20)
def wsX4_restore_r1 : List Cond := [Cond.fieldLink RX4 36 "ThirdVotes" "history" "LThirdVotes$History;", Cond.fieldLink RX4 12 "ThirdVotes" "state" "LThirdVotes$State;", Cond.methodLink RX4 121 yX0_hasSnapshot, Cond.instanceMethod yX0_hasSnapshot, Cond.selects RX0 yX0_hasSnapshot yX0_hasSnapshot, Cond.initialized RX0, Cond.code yX0_hasSnapshot cX0_hasSnapshot 1 (some .boolean), Cond.fieldLink RX0 24 "ThirdVotes$History" "hasSnapshot" "Z", Cond.methodLink RX4 51 yX0_remember, Cond.instanceMethod yX0_remember, Cond.selects RX0 yX0_remember yX0_remember, Cond.code yX0_remember cX0_remember 2 none, Cond.fieldLink RX0 20 "ThirdVotes$History" "size" "I", Cond.fieldLink RX0 11 "ThirdVotes$History" "states" "[LThirdVotes$State;", Cond.methodLink RX0 28 yX0_dropOldest, Cond.instanceMethod yX0_dropOldest, Cond.selects RX0 yX0_dropOldest yX0_dropOldest, Cond.code yX0_dropOldest cX0_dropOldest 3 none, Cond.methodLink RX0 31 yX2_copyFrom, Cond.instanceMethod yX2_copyFrom, Cond.selects RX2 yX2_copyFrom yX2_copyFrom, Cond.initialized RX2, Cond.code yX2_copyFrom cX2_copyFrom 2 none, Cond.fieldLink RX2 11 "ThirdVotes$State" "levels" "[J"]
def wsX4_restore_r2 : List Cond := [Cond.methodLink RX2 33 arraycopyName, Cond.native arraycopyName, Cond.static arraycopyName, Cond.initialized "java/lang/System", Cond.fieldLink RX2 15 "ThirdVotes$State" "words" "[I", Cond.fieldLink RX2 19 "ThirdVotes$State" "settings" "[I", Cond.fieldLink RX2 39 "ThirdVotes$State" "end" "I", Cond.fieldLink RX2 43 "ThirdVotes$State" "wordCount" "I", Cond.methodLink RX4 125 yX0_copySnapshotTo, Cond.instanceMethod yX0_copySnapshotTo, Cond.selects RX0 yX0_copySnapshotTo yX0_copySnapshotTo, Cond.code yX0_copySnapshotTo cX0_copySnapshotTo 2 none, Cond.fieldLink RX0 16 "ThirdVotes$History" "snapshot" "LThirdVotes$State;", Cond.methodLink RX4 58 yX2_end, Cond.instanceMethod yX2_end, Cond.selects RX2 yX2_end yX2_end, Cond.code yX2_end cX2_end 1 (some .int)]
def wsX4_restore : List Cond := .code yX4_restore cX4_restore 1 (some .int) :: ((wsX4_restore_r1 ++ wsX4_restore_r2) ++ wsX40 ++ wsX00 ++ wsX20)
def wsX4_level : List Cond := .code yX4_level cX4_level 2 (some .int) :: ([.fieldLink RX4 12 "ThirdVotes" "state" "LThirdVotes$State;", .methodLink RX4 128 yX2_levelAt, .instanceMethod yX2_levelAt, .selects RX2 yX2_levelAt yX2_levelAt, .initialized RX2, .code yX2_levelAt cX2_levelAt 2 (some .int), .fieldLink RX2 39 "ThirdVotes$State" "end" "I", .fieldLink RX2 11 "ThirdVotes$State" "levels" "[J"] ++ wsX40 ++ wsX20)
def wsX4_fall_r1 : List Cond := [Cond.fieldLink RX4 12 "ThirdVotes" "state" "LThirdVotes$State;", Cond.methodLink RX4 131 yX2_fallOfRank, Cond.instanceMethod yX2_fallOfRank, Cond.selects RX2 yX2_fallOfRank yX2_fallOfRank, Cond.initialized RX2, Cond.code yX2_fallOfRank cX2_fallOfRank 4 (some .int), Cond.fieldLink RX2 39 "ThirdVotes$State" "end" "I", Cond.methodLink RX2 87 yX2_nextFall, Cond.instanceMethod yX2_nextFall, Cond.selects RX2 yX2_nextFall yX2_nextFall, Cond.code yX2_nextFall cX2_nextFall 7 (some .int), Cond.methodLink RX2 65 Lib.Math.max.name, Cond.static Lib.Math.max.name, Cond.initialized "java/lang/Math", Cond.code Lib.Math.max.name Lib.Math.max.code 2 (some .int), Cond.methodLink RX2 74 yX2_fallsIn, Cond.instanceMethod yX2_fallsIn, Cond.selects RX2 yX2_fallsIn yX2_fallsIn, Cond.code yX2_fallsIn cX2_fallsIn 4 (some .long), Cond.fieldLink RX2 11 "ThirdVotes$State" "levels" "[J", Cond.constantLong RX2 22 (-1), Cond.methodLink RX2 78 yJ13_bitCount_95d88, Cond.static yJ13_bitCount_95d88, Cond.initialized RJ13]
def wsX4_fall_r2 : List Cond := [Cond.code yJ13_bitCount_95d88 cJ13_bitCount_95d88 2 (some .int), Cond.constantLong RJ13 314 (6148914691236517205), Cond.constantLong RJ13 316 (3689348814741910323), Cond.constantLong RJ13 318 (1085102592571150095), Cond.methodLink RX2 84 yX2_behindRow, Cond.static yX2_behindRow, Cond.code yX2_behindRow cX2_behindRow 1 (some .int)]
def wsX4_fall : List Cond := .code yX4_fall cX4_fall 2 (some .int) :: ((wsX4_fall_r1 ++ wsX4_fall_r2) ++ wsX40 ++ wsX20)
def wsX4_sent : List Cond := .code yX4_sent cX4_sent 2 (some .int) :: ([.fieldLink RX4 12 "ThirdVotes" "state" "LThirdVotes$State;", .methodLink RX4 134 yX2_wordOfRank, .instanceMethod yX2_wordOfRank, .selects RX2 yX2_wordOfRank yX2_wordOfRank, .initialized RX2, .code yX2_wordOfRank cX2_wordOfRank 2 (some .int), .fieldLink RX2 43 "ThirdVotes$State" "wordCount" "I", .fieldLink RX2 15 "ThirdVotes$State" "words" "[I"] ++ wsX40 ++ wsX20)
def wsX4_received_r1 : List Cond := [Cond.fieldLink RX4 22 "ThirdVotes" "receiver" "LThirdVotes$Receiver;", Cond.fieldLink RX4 12 "ThirdVotes" "state" "LThirdVotes$State;", Cond.methodLink RX4 81 yX2_setting, Cond.instanceMethod yX2_setting, Cond.selects RX2 yX2_setting yX2_setting, Cond.initialized RX2, Cond.code yX2_setting cX2_setting 2 (some .int), Cond.fieldLink RX2 19 "ThirdVotes$State" "settings" "[I", Cond.methodLink RX4 137 yX1_receive, Cond.instanceMethod yX1_receive, Cond.selects RX1 yX1_receive yX1_receive, Cond.initialized RX1, Cond.code yX1_receive cX1_receive 5 none, Cond.fieldLink RX1 16 "ThirdVotes$Receiver" "count" "I", Cond.fieldLink RX1 20 "ThirdVotes$Receiver" "falseStarts" "I", Cond.methodLink RX1 37 Lib.Math.max.name, Cond.static Lib.Math.max.name, Cond.initialized "java/lang/Math", Cond.code Lib.Math.max.name Lib.Math.max.code 2 (some .int), Cond.methodLink RX1 23 yX2_nextFall, Cond.instanceMethod yX2_nextFall, Cond.selects RX2 yX2_nextFall yX2_nextFall, Cond.code yX2_nextFall cX2_nextFall 7 (some .int), Cond.methodLink RX2 65 Lib.Math.max.name]
def wsX4_received_r2 : List Cond := [Cond.fieldLink RX2 39 "ThirdVotes$State" "end" "I", Cond.methodLink RX2 74 yX2_fallsIn, Cond.instanceMethod yX2_fallsIn, Cond.selects RX2 yX2_fallsIn yX2_fallsIn, Cond.code yX2_fallsIn cX2_fallsIn 4 (some .long), Cond.fieldLink RX2 11 "ThirdVotes$State" "levels" "[J", Cond.constantLong RX2 22 (-1), Cond.methodLink RX2 78 yJ13_bitCount_95d88, Cond.static yJ13_bitCount_95d88, Cond.initialized RJ13, Cond.code yJ13_bitCount_95d88 cJ13_bitCount_95d88 2 (some .int), Cond.constantLong RJ13 314 (6148914691236517205), Cond.constantLong RJ13 316 (3689348814741910323), Cond.constantLong RJ13 318 (1085102592571150095), Cond.methodLink RX2 84 yX2_behindRow, Cond.static yX2_behindRow, Cond.code yX2_behindRow cX2_behindRow 1 (some .int), Cond.methodLink RX1 29 yX2_end, Cond.instanceMethod yX2_end, Cond.selects RX2 yX2_end yX2_end, Cond.code yX2_end cX2_end 1 (some .int), Cond.methodLink RX1 33 yX1_tellFrom, Cond.instanceMethod yX1_tellFrom, Cond.selects RX1 yX1_tellFrom yX1_tellFrom]
def wsX4_received_r3 : List Cond := [Cond.code yX1_tellFrom cX1_tellFrom 8 (some .int), Cond.fieldLink RX1 56 "ThirdVotes$Receiver" "doubtfulBits" "I", Cond.methodLink RX1 59 yX1_tellBit, Cond.instanceMethod yX1_tellBit, Cond.selects RX1 yX1_tellBit yX1_tellBit, Cond.code yX1_tellBit cX1_tellBit 6 (some .int), Cond.methodLink RX1 79 yX2_levelAt, Cond.instanceMethod yX2_levelAt, Cond.selects RX2 yX2_levelAt yX2_levelAt, Cond.code yX2_levelAt cX2_levelAt 2 (some .int), Cond.methodLink RX1 62 yX1_thirdLook, Cond.static yX1_thirdLook, Cond.code yX1_thirdLook cX1_thirdLook 2 (some .int), Cond.methodLink RX1 65 yX2_setting, Cond.methodLink RX1 68 yX1_kindOf, Cond.static yX1_kindOf, Cond.code yX1_kindOf cX1_kindOf 3 (some .int), Cond.methodLink RX1 72 yX1_wordIn, Cond.static yX1_wordIn, Cond.code yX1_wordIn cX1_wordIn 1 (some .int), Cond.static yX4_parityOf, Cond.initialized RX4, Cond.code yX4_parityOf cX4_parityOf 3 (some .int), Cond.methodLink RX4 175 yJ6_bitCount_0f7a4]
def wsX4_received_r4 : List Cond := [Cond.static yJ6_bitCount_0f7a4, Cond.initialized RJ6, Cond.code yJ6_bitCount_0f7a4 cJ6_bitCount_0f7a4 1 (some .int), Cond.constant RJ6 265 (1431655765), Cond.constant RJ6 266 (858993459), Cond.constant RJ6 267 (252645135), Cond.methodLink RX1 75 yX1_add, Cond.instanceMethod yX1_add, Cond.selects RX1 yX1_add yX1_add, Cond.code yX1_add cX1_add 5 none, Cond.fieldLink RX1 13 "ThirdVotes$Receiver" "notes" "[[I", Cond.methodLink RX4 141 yX1_note, Cond.instanceMethod yX1_note, Cond.selects RX1 yX1_note yX1_note, Cond.code yX1_note cX1_note 3 (some .int)]
def wsX4_received : List Cond := .code yX4_received cX4_received 3 (some .int) :: ((wsX4_received_r1 ++ (wsX4_received_r2 ++ (wsX4_received_r3 ++ wsX4_received_r4))) ++ wsX40 ++ wsX20 ++ wsX10)
def wsX4_totalReceived_r1 : List Cond := [Cond.fieldLink RX4 22 "ThirdVotes" "receiver" "LThirdVotes$Receiver;", Cond.fieldLink RX4 12 "ThirdVotes" "state" "LThirdVotes$State;", Cond.methodLink RX4 81 yX2_setting, Cond.instanceMethod yX2_setting, Cond.selects RX2 yX2_setting yX2_setting, Cond.initialized RX2, Cond.code yX2_setting cX2_setting 2 (some .int), Cond.fieldLink RX2 19 "ThirdVotes$State" "settings" "[I", Cond.methodLink RX4 137 yX1_receive, Cond.instanceMethod yX1_receive, Cond.selects RX1 yX1_receive yX1_receive, Cond.initialized RX1, Cond.code yX1_receive cX1_receive 5 none, Cond.fieldLink RX1 16 "ThirdVotes$Receiver" "count" "I", Cond.fieldLink RX1 20 "ThirdVotes$Receiver" "falseStarts" "I", Cond.methodLink RX1 37 Lib.Math.max.name, Cond.static Lib.Math.max.name, Cond.initialized "java/lang/Math", Cond.code Lib.Math.max.name Lib.Math.max.code 2 (some .int), Cond.methodLink RX1 23 yX2_nextFall, Cond.instanceMethod yX2_nextFall, Cond.selects RX2 yX2_nextFall yX2_nextFall, Cond.code yX2_nextFall cX2_nextFall 7 (some .int), Cond.methodLink RX2 65 Lib.Math.max.name]
def wsX4_totalReceived_r2 : List Cond := [Cond.fieldLink RX2 39 "ThirdVotes$State" "end" "I", Cond.methodLink RX2 74 yX2_fallsIn, Cond.instanceMethod yX2_fallsIn, Cond.selects RX2 yX2_fallsIn yX2_fallsIn, Cond.code yX2_fallsIn cX2_fallsIn 4 (some .long), Cond.fieldLink RX2 11 "ThirdVotes$State" "levels" "[J", Cond.constantLong RX2 22 (-1), Cond.methodLink RX2 78 yJ13_bitCount_95d88, Cond.static yJ13_bitCount_95d88, Cond.initialized RJ13, Cond.code yJ13_bitCount_95d88 cJ13_bitCount_95d88 2 (some .int), Cond.constantLong RJ13 314 (6148914691236517205), Cond.constantLong RJ13 316 (3689348814741910323), Cond.constantLong RJ13 318 (1085102592571150095), Cond.methodLink RX2 84 yX2_behindRow, Cond.static yX2_behindRow, Cond.code yX2_behindRow cX2_behindRow 1 (some .int), Cond.methodLink RX1 29 yX2_end, Cond.instanceMethod yX2_end, Cond.selects RX2 yX2_end yX2_end, Cond.code yX2_end cX2_end 1 (some .int), Cond.methodLink RX1 33 yX1_tellFrom, Cond.instanceMethod yX1_tellFrom, Cond.selects RX1 yX1_tellFrom yX1_tellFrom]
def wsX4_totalReceived_r3 : List Cond := [Cond.code yX1_tellFrom cX1_tellFrom 8 (some .int), Cond.fieldLink RX1 56 "ThirdVotes$Receiver" "doubtfulBits" "I", Cond.methodLink RX1 59 yX1_tellBit, Cond.instanceMethod yX1_tellBit, Cond.selects RX1 yX1_tellBit yX1_tellBit, Cond.code yX1_tellBit cX1_tellBit 6 (some .int), Cond.methodLink RX1 79 yX2_levelAt, Cond.instanceMethod yX2_levelAt, Cond.selects RX2 yX2_levelAt yX2_levelAt, Cond.code yX2_levelAt cX2_levelAt 2 (some .int), Cond.methodLink RX1 62 yX1_thirdLook, Cond.static yX1_thirdLook, Cond.code yX1_thirdLook cX1_thirdLook 2 (some .int), Cond.methodLink RX1 65 yX2_setting, Cond.methodLink RX1 68 yX1_kindOf, Cond.static yX1_kindOf, Cond.code yX1_kindOf cX1_kindOf 3 (some .int), Cond.methodLink RX1 72 yX1_wordIn, Cond.static yX1_wordIn, Cond.code yX1_wordIn cX1_wordIn 1 (some .int), Cond.static yX4_parityOf, Cond.initialized RX4, Cond.code yX4_parityOf cX4_parityOf 3 (some .int), Cond.methodLink RX4 175 yJ6_bitCount_0f7a4]
def wsX4_totalReceived_r4 : List Cond := [Cond.static yJ6_bitCount_0f7a4, Cond.initialized RJ6, Cond.code yJ6_bitCount_0f7a4 cJ6_bitCount_0f7a4 1 (some .int), Cond.constant RJ6 265 (1431655765), Cond.constant RJ6 266 (858993459), Cond.constant RJ6 267 (252645135), Cond.methodLink RX1 75 yX1_add, Cond.instanceMethod yX1_add, Cond.selects RX1 yX1_add yX1_add, Cond.code yX1_add cX1_add 5 none, Cond.fieldLink RX1 13 "ThirdVotes$Receiver" "notes" "[[I", Cond.methodLink RX4 156 yX1_count, Cond.instanceMethod yX1_count, Cond.selects RX1 yX1_count yX1_count, Cond.code yX1_count cX1_count 1 (some .int), Cond.methodLink RX4 159 yX1_countKind, Cond.instanceMethod yX1_countKind, Cond.selects RX1 yX1_countKind yX1_countKind, Cond.code yX1_countKind cX1_countKind 4 (some .int), Cond.methodLink RX1 43 yX1_note, Cond.instanceMethod yX1_note, Cond.selects RX1 yX1_note yX1_note, Cond.code yX1_note cX1_note 3 (some .int), Cond.methodLink RX4 184 yX1_falseStarts]
def wsX4_totalReceived_r5 : List Cond := [Cond.instanceMethod yX1_falseStarts, Cond.selects RX1 yX1_falseStarts yX1_falseStarts, Cond.code yX1_falseStarts cX1_falseStarts 1 (some .int), Cond.methodLink RX4 162 yX1_countDoubtful, Cond.instanceMethod yX1_countDoubtful, Cond.selects RX1 yX1_countDoubtful yX1_countDoubtful, Cond.code yX1_countDoubtful cX1_countDoubtful 3 (some .int), Cond.methodLink RX4 165 yX1_isAllWell, Cond.instanceMethod yX1_isAllWell, Cond.selects RX1 yX1_isAllWell yX1_isAllWell, Cond.code yX1_isAllWell cX1_isAllWell 3 (some .boolean), Cond.methodLink RX1 50 yX2_wordCount, Cond.instanceMethod yX2_wordCount, Cond.selects RX2 yX2_wordCount yX2_wordCount, Cond.code yX2_wordCount cX2_wordCount 1 (some .int), Cond.fieldLink RX2 43 "ThirdVotes$State" "wordCount" "I", Cond.methodLink RX1 53 yX2_wordOfRank, Cond.instanceMethod yX2_wordOfRank, Cond.selects RX2 yX2_wordOfRank yX2_wordOfRank, Cond.code yX2_wordOfRank cX2_wordOfRank 2 (some .int), Cond.fieldLink RX2 15 "ThirdVotes$State" "words" "[I", Cond.methodLink RX1 46 yX1_isGoodWord, Cond.instanceMethod yX1_isGoodWord, Cond.selects RX1 yX1_isGoodWord yX1_isGoodWord]
def wsX4_totalReceived_r6 : List Cond := [Cond.code yX1_isGoodWord cX1_isGoodWord 3 (some .boolean)]
def wsX4_totalReceived : List Cond := .code yX4_totalReceived cX4_totalReceived 2 (some .int) :: ((wsX4_totalReceived_r1 ++ (wsX4_totalReceived_r2 ++ (wsX4_totalReceived_r3 ++ (wsX4_totalReceived_r4 ++ (wsX4_totalReceived_r5 ++ wsX4_totalReceived_r6))))) ++ wsX40 ++ wsX20 ++ wsX10)
def wsX4_total_r1 : List Cond := [Cond.fieldLink RX4 12 "ThirdVotes" "state" "LThirdVotes$State;", Cond.fieldLink RX4 36 "ThirdVotes" "history" "LThirdVotes$History;", Cond.fieldLink RX4 29 "ThirdVotes" "text" "LThirdVotes$Text;", Cond.methodLink RX4 81 yX2_setting, Cond.instanceMethod yX2_setting, Cond.selects RX2 yX2_setting yX2_setting, Cond.initialized RX2, Cond.code yX2_setting cX2_setting 2 (some .int), Cond.fieldLink RX2 19 "ThirdVotes$State" "settings" "[I", Cond.methodLink RX4 58 yX2_end, Cond.instanceMethod yX2_end, Cond.selects RX2 yX2_end yX2_end, Cond.code yX2_end cX2_end 1 (some .int), Cond.fieldLink RX2 39 "ThirdVotes$State" "end" "I", Cond.methodLink RX4 144 yX2_wordCount, Cond.instanceMethod yX2_wordCount, Cond.selects RX2 yX2_wordCount yX2_wordCount, Cond.code yX2_wordCount cX2_wordCount 1 (some .int), Cond.fieldLink RX2 43 "ThirdVotes$State" "wordCount" "I", Cond.methodLink RX4 147 yX2_countFalls, Cond.instanceMethod yX2_countFalls, Cond.selects RX2 yX2_countFalls yX2_countFalls, Cond.code yX2_countFalls cX2_countFalls 3 (some .int), Cond.methodLink RX2 74 yX2_fallsIn]
def wsX4_total_r2 : List Cond := [Cond.instanceMethod yX2_fallsIn, Cond.selects RX2 yX2_fallsIn yX2_fallsIn, Cond.code yX2_fallsIn cX2_fallsIn 4 (some .long), Cond.fieldLink RX2 11 "ThirdVotes$State" "levels" "[J", Cond.constantLong RX2 22 (-1), Cond.methodLink RX2 78 yJ13_bitCount_95d88, Cond.static yJ13_bitCount_95d88, Cond.initialized RJ13, Cond.code yJ13_bitCount_95d88 cJ13_bitCount_95d88 2 (some .int), Cond.constantLong RJ13 314 (6148914691236517205), Cond.constantLong RJ13 316 (3689348814741910323), Cond.constantLong RJ13 318 (1085102592571150095), Cond.methodLink RX4 150 yX2_countLowTicks, Cond.instanceMethod yX2_countLowTicks, Cond.selects RX2 yX2_countLowTicks yX2_countLowTicks, Cond.code yX2_countLowTicks cX2_countLowTicks 3 (some .int), Cond.methodLink RX4 89 yX2_learnedLength, Cond.instanceMethod yX2_learnedLength, Cond.selects RX2 yX2_learnedLength yX2_learnedLength, Cond.code yX2_learnedLength cX2_learnedLength 4 (some .int), Cond.methodLink RX2 90 yX2_fallOfRank, Cond.instanceMethod yX2_fallOfRank, Cond.selects RX2 yX2_fallOfRank yX2_fallOfRank, Cond.code yX2_fallOfRank cX2_fallOfRank 4 (some .int)]
def wsX4_total_r3 : List Cond := [Cond.methodLink RX2 87 yX2_nextFall, Cond.instanceMethod yX2_nextFall, Cond.selects RX2 yX2_nextFall yX2_nextFall, Cond.code yX2_nextFall cX2_nextFall 7 (some .int), Cond.methodLink RX2 65 Lib.Math.max.name, Cond.static Lib.Math.max.name, Cond.initialized "java/lang/Math", Cond.code Lib.Math.max.name Lib.Math.max.code 2 (some .int), Cond.methodLink RX2 84 yX2_behindRow, Cond.static yX2_behindRow, Cond.code yX2_behindRow cX2_behindRow 1 (some .int), Cond.methodLink RX4 115 yX0_size, Cond.instanceMethod yX0_size, Cond.selects RX0 yX0_size yX0_size, Cond.initialized RX0, Cond.code yX0_size cX0_size 1 (some .int), Cond.fieldLink RX0 20 "ThirdVotes$History" "size" "I", Cond.methodLink RX4 96 yX3_length, Cond.instanceMethod yX3_length, Cond.selects RX3 yX3_length yX3_length, Cond.initialized RX3, Cond.code yX3_length cX3_length 1 (some .int), Cond.fieldLink RX3 22 "ThirdVotes$Text" "length" "I", Cond.methodLink RX4 153 yX4_totalReceived]
def wsX4_total_r4 : List Cond := [Cond.instanceMethod yX4_totalReceived, Cond.selects RX4 yX4_totalReceived yX4_totalReceived, Cond.initialized RX4, Cond.code yX4_totalReceived cX4_totalReceived 2 (some .int), Cond.fieldLink RX4 22 "ThirdVotes" "receiver" "LThirdVotes$Receiver;", Cond.methodLink RX4 137 yX1_receive, Cond.instanceMethod yX1_receive, Cond.selects RX1 yX1_receive yX1_receive, Cond.initialized RX1, Cond.code yX1_receive cX1_receive 5 none, Cond.fieldLink RX1 16 "ThirdVotes$Receiver" "count" "I", Cond.fieldLink RX1 20 "ThirdVotes$Receiver" "falseStarts" "I", Cond.methodLink RX1 37 Lib.Math.max.name, Cond.methodLink RX1 23 yX2_nextFall, Cond.methodLink RX1 29 yX2_end, Cond.methodLink RX1 33 yX1_tellFrom, Cond.instanceMethod yX1_tellFrom, Cond.selects RX1 yX1_tellFrom yX1_tellFrom, Cond.code yX1_tellFrom cX1_tellFrom 8 (some .int), Cond.fieldLink RX1 56 "ThirdVotes$Receiver" "doubtfulBits" "I", Cond.methodLink RX1 59 yX1_tellBit, Cond.instanceMethod yX1_tellBit, Cond.selects RX1 yX1_tellBit yX1_tellBit, Cond.code yX1_tellBit cX1_tellBit 6 (some .int)]
def wsX4_total_r5 : List Cond := [Cond.methodLink RX1 79 yX2_levelAt, Cond.instanceMethod yX2_levelAt, Cond.selects RX2 yX2_levelAt yX2_levelAt, Cond.code yX2_levelAt cX2_levelAt 2 (some .int), Cond.methodLink RX1 62 yX1_thirdLook, Cond.static yX1_thirdLook, Cond.code yX1_thirdLook cX1_thirdLook 2 (some .int), Cond.methodLink RX1 65 yX2_setting, Cond.methodLink RX1 68 yX1_kindOf, Cond.static yX1_kindOf, Cond.code yX1_kindOf cX1_kindOf 3 (some .int), Cond.methodLink RX1 72 yX1_wordIn, Cond.static yX1_wordIn, Cond.code yX1_wordIn cX1_wordIn 1 (some .int), Cond.static yX4_parityOf, Cond.code yX4_parityOf cX4_parityOf 3 (some .int), Cond.methodLink RX4 175 yJ6_bitCount_0f7a4, Cond.static yJ6_bitCount_0f7a4, Cond.initialized RJ6, Cond.code yJ6_bitCount_0f7a4 cJ6_bitCount_0f7a4 1 (some .int), Cond.constant RJ6 265 (1431655765), Cond.constant RJ6 266 (858993459), Cond.constant RJ6 267 (252645135), Cond.methodLink RX1 75 yX1_add]
def wsX4_total_r6 : List Cond := [Cond.instanceMethod yX1_add, Cond.selects RX1 yX1_add yX1_add, Cond.code yX1_add cX1_add 5 none, Cond.fieldLink RX1 13 "ThirdVotes$Receiver" "notes" "[[I", Cond.methodLink RX4 156 yX1_count, Cond.instanceMethod yX1_count, Cond.selects RX1 yX1_count yX1_count, Cond.code yX1_count cX1_count 1 (some .int), Cond.methodLink RX4 159 yX1_countKind, Cond.instanceMethod yX1_countKind, Cond.selects RX1 yX1_countKind yX1_countKind, Cond.code yX1_countKind cX1_countKind 4 (some .int), Cond.methodLink RX1 43 yX1_note, Cond.instanceMethod yX1_note, Cond.selects RX1 yX1_note yX1_note, Cond.code yX1_note cX1_note 3 (some .int), Cond.methodLink RX4 184 yX1_falseStarts, Cond.instanceMethod yX1_falseStarts, Cond.selects RX1 yX1_falseStarts yX1_falseStarts, Cond.code yX1_falseStarts cX1_falseStarts 1 (some .int), Cond.methodLink RX4 162 yX1_countDoubtful, Cond.instanceMethod yX1_countDoubtful, Cond.selects RX1 yX1_countDoubtful yX1_countDoubtful, Cond.code yX1_countDoubtful cX1_countDoubtful 3 (some .int)]
def wsX4_total_r7 : List Cond := [Cond.methodLink RX4 165 yX1_isAllWell, Cond.instanceMethod yX1_isAllWell, Cond.selects RX1 yX1_isAllWell yX1_isAllWell, Cond.code yX1_isAllWell cX1_isAllWell 3 (some .boolean), Cond.methodLink RX1 50 yX2_wordCount, Cond.methodLink RX1 53 yX2_wordOfRank, Cond.instanceMethod yX2_wordOfRank, Cond.selects RX2 yX2_wordOfRank yX2_wordOfRank, Cond.code yX2_wordOfRank cX2_wordOfRank 2 (some .int), Cond.fieldLink RX2 15 "ThirdVotes$State" "words" "[I", Cond.methodLink RX1 46 yX1_isGoodWord, Cond.instanceMethod yX1_isGoodWord, Cond.selects RX1 yX1_isGoodWord yX1_isGoodWord, Cond.code yX1_isGoodWord cX1_isGoodWord 3 (some .boolean)]
def wsX4_total : List Cond := .code yX4_total cX4_total 2 (some .int) :: ((wsX4_total_r1 ++ (wsX4_total_r2 ++ (wsX4_total_r3 ++ (wsX4_total_r4 ++ (wsX4_total_r5 ++ (wsX4_total_r6 ++ wsX4_total_r7)))))) ++ wsX40 ++ wsX20 ++ wsX00 ++ wsX30 ++ wsX10)
def wsX4_ifLength_r1 : List Cond := [Cond.fieldLink RX4 22 "ThirdVotes" "receiver" "LThirdVotes$Receiver;", Cond.fieldLink RX4 12 "ThirdVotes" "state" "LThirdVotes$State;", Cond.methodLink RX4 137 yX1_receive, Cond.instanceMethod yX1_receive, Cond.selects RX1 yX1_receive yX1_receive, Cond.initialized RX1, Cond.code yX1_receive cX1_receive 5 none, Cond.fieldLink RX1 16 "ThirdVotes$Receiver" "count" "I", Cond.fieldLink RX1 20 "ThirdVotes$Receiver" "falseStarts" "I", Cond.methodLink RX1 37 Lib.Math.max.name, Cond.static Lib.Math.max.name, Cond.initialized "java/lang/Math", Cond.code Lib.Math.max.name Lib.Math.max.code 2 (some .int), Cond.methodLink RX1 23 yX2_nextFall, Cond.instanceMethod yX2_nextFall, Cond.selects RX2 yX2_nextFall yX2_nextFall, Cond.initialized RX2, Cond.code yX2_nextFall cX2_nextFall 7 (some .int), Cond.methodLink RX2 65 Lib.Math.max.name, Cond.fieldLink RX2 39 "ThirdVotes$State" "end" "I", Cond.methodLink RX2 74 yX2_fallsIn, Cond.instanceMethod yX2_fallsIn, Cond.selects RX2 yX2_fallsIn yX2_fallsIn, Cond.code yX2_fallsIn cX2_fallsIn 4 (some .long)]
def wsX4_ifLength_r2 : List Cond := [Cond.fieldLink RX2 11 "ThirdVotes$State" "levels" "[J", Cond.constantLong RX2 22 (-1), Cond.methodLink RX2 78 yJ13_bitCount_95d88, Cond.static yJ13_bitCount_95d88, Cond.initialized RJ13, Cond.code yJ13_bitCount_95d88 cJ13_bitCount_95d88 2 (some .int), Cond.constantLong RJ13 314 (6148914691236517205), Cond.constantLong RJ13 316 (3689348814741910323), Cond.constantLong RJ13 318 (1085102592571150095), Cond.methodLink RX2 84 yX2_behindRow, Cond.static yX2_behindRow, Cond.code yX2_behindRow cX2_behindRow 1 (some .int), Cond.methodLink RX1 29 yX2_end, Cond.instanceMethod yX2_end, Cond.selects RX2 yX2_end yX2_end, Cond.code yX2_end cX2_end 1 (some .int), Cond.methodLink RX1 33 yX1_tellFrom, Cond.instanceMethod yX1_tellFrom, Cond.selects RX1 yX1_tellFrom yX1_tellFrom, Cond.code yX1_tellFrom cX1_tellFrom 8 (some .int), Cond.fieldLink RX1 56 "ThirdVotes$Receiver" "doubtfulBits" "I", Cond.methodLink RX1 59 yX1_tellBit, Cond.instanceMethod yX1_tellBit, Cond.selects RX1 yX1_tellBit yX1_tellBit]
def wsX4_ifLength_r3 : List Cond := [Cond.code yX1_tellBit cX1_tellBit 6 (some .int), Cond.methodLink RX1 79 yX2_levelAt, Cond.instanceMethod yX2_levelAt, Cond.selects RX2 yX2_levelAt yX2_levelAt, Cond.code yX2_levelAt cX2_levelAt 2 (some .int), Cond.methodLink RX1 62 yX1_thirdLook, Cond.static yX1_thirdLook, Cond.code yX1_thirdLook cX1_thirdLook 2 (some .int), Cond.methodLink RX1 65 yX2_setting, Cond.instanceMethod yX2_setting, Cond.selects RX2 yX2_setting yX2_setting, Cond.code yX2_setting cX2_setting 2 (some .int), Cond.fieldLink RX2 19 "ThirdVotes$State" "settings" "[I", Cond.methodLink RX1 68 yX1_kindOf, Cond.static yX1_kindOf, Cond.code yX1_kindOf cX1_kindOf 3 (some .int), Cond.methodLink RX1 72 yX1_wordIn, Cond.static yX1_wordIn, Cond.code yX1_wordIn cX1_wordIn 1 (some .int), Cond.static yX4_parityOf, Cond.initialized RX4, Cond.code yX4_parityOf cX4_parityOf 3 (some .int), Cond.methodLink RX4 175 yJ6_bitCount_0f7a4, Cond.static yJ6_bitCount_0f7a4]
def wsX4_ifLength_r4 : List Cond := [Cond.initialized RJ6, Cond.code yJ6_bitCount_0f7a4 cJ6_bitCount_0f7a4 1 (some .int), Cond.constant RJ6 265 (1431655765), Cond.constant RJ6 266 (858993459), Cond.constant RJ6 267 (252645135), Cond.methodLink RX1 75 yX1_add, Cond.instanceMethod yX1_add, Cond.selects RX1 yX1_add yX1_add, Cond.code yX1_add cX1_add 5 none, Cond.fieldLink RX1 13 "ThirdVotes$Receiver" "notes" "[[I", Cond.methodLink RX4 156 yX1_count, Cond.instanceMethod yX1_count, Cond.selects RX1 yX1_count yX1_count, Cond.code yX1_count cX1_count 1 (some .int), Cond.methodLink RX4 159 yX1_countKind, Cond.instanceMethod yX1_countKind, Cond.selects RX1 yX1_countKind yX1_countKind, Cond.code yX1_countKind cX1_countKind 4 (some .int), Cond.methodLink RX1 43 yX1_note, Cond.instanceMethod yX1_note, Cond.selects RX1 yX1_note yX1_note, Cond.code yX1_note cX1_note 3 (some .int), Cond.methodLink RX4 162 yX1_countDoubtful, Cond.instanceMethod yX1_countDoubtful]
def wsX4_ifLength_r5 : List Cond := [Cond.selects RX1 yX1_countDoubtful yX1_countDoubtful, Cond.code yX1_countDoubtful cX1_countDoubtful 3 (some .int), Cond.methodLink RX4 165 yX1_isAllWell, Cond.instanceMethod yX1_isAllWell, Cond.selects RX1 yX1_isAllWell yX1_isAllWell, Cond.code yX1_isAllWell cX1_isAllWell 3 (some .boolean), Cond.methodLink RX1 50 yX2_wordCount, Cond.instanceMethod yX2_wordCount, Cond.selects RX2 yX2_wordCount yX2_wordCount, Cond.code yX2_wordCount cX2_wordCount 1 (some .int), Cond.fieldLink RX2 43 "ThirdVotes$State" "wordCount" "I", Cond.methodLink RX1 53 yX2_wordOfRank, Cond.instanceMethod yX2_wordOfRank, Cond.selects RX2 yX2_wordOfRank yX2_wordOfRank, Cond.code yX2_wordOfRank cX2_wordOfRank 2 (some .int), Cond.fieldLink RX2 15 "ThirdVotes$State" "words" "[I", Cond.methodLink RX1 46 yX1_isGoodWord, Cond.instanceMethod yX1_isGoodWord, Cond.selects RX1 yX1_isGoodWord yX1_isGoodWord, Cond.code yX1_isGoodWord cX1_isGoodWord 3 (some .boolean)]
def wsX4_ifLength : List Cond := .code yX4_ifLength cX4_ifLength 3 (some .int) :: ((wsX4_ifLength_r1 ++ (wsX4_ifLength_r2 ++ (wsX4_ifLength_r3 ++ (wsX4_ifLength_r4 ++ wsX4_ifLength_r5)))) ++ wsX40 ++ wsX10 ++ wsX20)
def wsX4_isWellWith_r1 : List Cond := [Cond.fieldLink RX4 22 "ThirdVotes" "receiver" "LThirdVotes$Receiver;", Cond.methodLink RX4 137 yX1_receive, Cond.instanceMethod yX1_receive, Cond.selects RX1 yX1_receive yX1_receive, Cond.initialized RX1, Cond.code yX1_receive cX1_receive 5 none, Cond.fieldLink RX1 16 "ThirdVotes$Receiver" "count" "I", Cond.fieldLink RX1 20 "ThirdVotes$Receiver" "falseStarts" "I", Cond.methodLink RX1 37 Lib.Math.max.name, Cond.static Lib.Math.max.name, Cond.initialized "java/lang/Math", Cond.code Lib.Math.max.name Lib.Math.max.code 2 (some .int), Cond.methodLink RX1 23 yX2_nextFall, Cond.instanceMethod yX2_nextFall, Cond.selects RX2 yX2_nextFall yX2_nextFall, Cond.initialized RX2, Cond.code yX2_nextFall cX2_nextFall 7 (some .int), Cond.methodLink RX2 65 Lib.Math.max.name, Cond.fieldLink RX2 39 "ThirdVotes$State" "end" "I", Cond.methodLink RX2 74 yX2_fallsIn, Cond.instanceMethod yX2_fallsIn, Cond.selects RX2 yX2_fallsIn yX2_fallsIn, Cond.code yX2_fallsIn cX2_fallsIn 4 (some .long), Cond.fieldLink RX2 11 "ThirdVotes$State" "levels" "[J"]
def wsX4_isWellWith_r2 : List Cond := [Cond.constantLong RX2 22 (-1), Cond.methodLink RX2 78 yJ13_bitCount_95d88, Cond.static yJ13_bitCount_95d88, Cond.initialized RJ13, Cond.code yJ13_bitCount_95d88 cJ13_bitCount_95d88 2 (some .int), Cond.constantLong RJ13 314 (6148914691236517205), Cond.constantLong RJ13 316 (3689348814741910323), Cond.constantLong RJ13 318 (1085102592571150095), Cond.methodLink RX2 84 yX2_behindRow, Cond.static yX2_behindRow, Cond.code yX2_behindRow cX2_behindRow 1 (some .int), Cond.methodLink RX1 29 yX2_end, Cond.instanceMethod yX2_end, Cond.selects RX2 yX2_end yX2_end, Cond.code yX2_end cX2_end 1 (some .int), Cond.methodLink RX1 33 yX1_tellFrom, Cond.instanceMethod yX1_tellFrom, Cond.selects RX1 yX1_tellFrom yX1_tellFrom, Cond.code yX1_tellFrom cX1_tellFrom 8 (some .int), Cond.fieldLink RX1 56 "ThirdVotes$Receiver" "doubtfulBits" "I", Cond.methodLink RX1 59 yX1_tellBit, Cond.instanceMethod yX1_tellBit, Cond.selects RX1 yX1_tellBit yX1_tellBit, Cond.code yX1_tellBit cX1_tellBit 6 (some .int)]
def wsX4_isWellWith_r3 : List Cond := [Cond.methodLink RX1 79 yX2_levelAt, Cond.instanceMethod yX2_levelAt, Cond.selects RX2 yX2_levelAt yX2_levelAt, Cond.code yX2_levelAt cX2_levelAt 2 (some .int), Cond.methodLink RX1 62 yX1_thirdLook, Cond.static yX1_thirdLook, Cond.code yX1_thirdLook cX1_thirdLook 2 (some .int), Cond.methodLink RX1 65 yX2_setting, Cond.instanceMethod yX2_setting, Cond.selects RX2 yX2_setting yX2_setting, Cond.code yX2_setting cX2_setting 2 (some .int), Cond.fieldLink RX2 19 "ThirdVotes$State" "settings" "[I", Cond.methodLink RX1 68 yX1_kindOf, Cond.static yX1_kindOf, Cond.code yX1_kindOf cX1_kindOf 3 (some .int), Cond.methodLink RX1 72 yX1_wordIn, Cond.static yX1_wordIn, Cond.code yX1_wordIn cX1_wordIn 1 (some .int), Cond.static yX4_parityOf, Cond.initialized RX4, Cond.code yX4_parityOf cX4_parityOf 3 (some .int), Cond.methodLink RX4 175 yJ6_bitCount_0f7a4, Cond.static yJ6_bitCount_0f7a4, Cond.initialized RJ6]
def wsX4_isWellWith_r4 : List Cond := [Cond.code yJ6_bitCount_0f7a4 cJ6_bitCount_0f7a4 1 (some .int), Cond.constant RJ6 265 (1431655765), Cond.constant RJ6 266 (858993459), Cond.constant RJ6 267 (252645135), Cond.methodLink RX1 75 yX1_add, Cond.instanceMethod yX1_add, Cond.selects RX1 yX1_add yX1_add, Cond.code yX1_add cX1_add 5 none, Cond.fieldLink RX1 13 "ThirdVotes$Receiver" "notes" "[[I", Cond.methodLink RX4 165 yX1_isAllWell, Cond.instanceMethod yX1_isAllWell, Cond.selects RX1 yX1_isAllWell yX1_isAllWell, Cond.code yX1_isAllWell cX1_isAllWell 3 (some .boolean), Cond.methodLink RX1 50 yX2_wordCount, Cond.instanceMethod yX2_wordCount, Cond.selects RX2 yX2_wordCount yX2_wordCount, Cond.code yX2_wordCount cX2_wordCount 1 (some .int), Cond.fieldLink RX2 43 "ThirdVotes$State" "wordCount" "I", Cond.methodLink RX1 53 yX2_wordOfRank, Cond.instanceMethod yX2_wordOfRank, Cond.selects RX2 yX2_wordOfRank yX2_wordOfRank, Cond.code yX2_wordOfRank cX2_wordOfRank 2 (some .int), Cond.fieldLink RX2 15 "ThirdVotes$State" "words" "[I", Cond.methodLink RX1 46 yX1_isGoodWord]
def wsX4_isWellWith_r5 : List Cond := [Cond.instanceMethod yX1_isGoodWord, Cond.selects RX1 yX1_isGoodWord yX1_isGoodWord, Cond.code yX1_isGoodWord cX1_isGoodWord 3 (some .boolean), Cond.methodLink RX1 43 yX1_note, Cond.instanceMethod yX1_note, Cond.selects RX1 yX1_note yX1_note, Cond.code yX1_note cX1_note 3 (some .int)]
def wsX4_isWellWith : List Cond := .code yX4_isWellWith cX4_isWellWith 3 (some .boolean) :: ((wsX4_isWellWith_r1 ++ (wsX4_isWellWith_r2 ++ (wsX4_isWellWith_r3 ++ (wsX4_isWellWith_r4 ++ wsX4_isWellWith_r5)))) ++ wsX40 ++ wsX10 ++ wsX20)
def wsX4_goodLength_r1 : List Cond := [Cond.fieldLink RX4 12 "ThirdVotes" "state" "LThirdVotes$State;", Cond.methodLink RX4 168 yX4_isWellWith, Cond.instanceMethod yX4_isWellWith, Cond.selects RX4 yX4_isWellWith yX4_isWellWith, Cond.initialized RX4, Cond.code yX4_isWellWith cX4_isWellWith 3 (some .boolean), Cond.fieldLink RX4 22 "ThirdVotes" "receiver" "LThirdVotes$Receiver;", Cond.methodLink RX4 137 yX1_receive, Cond.instanceMethod yX1_receive, Cond.selects RX1 yX1_receive yX1_receive, Cond.initialized RX1, Cond.code yX1_receive cX1_receive 5 none, Cond.fieldLink RX1 16 "ThirdVotes$Receiver" "count" "I", Cond.fieldLink RX1 20 "ThirdVotes$Receiver" "falseStarts" "I", Cond.methodLink RX1 37 Lib.Math.max.name, Cond.static Lib.Math.max.name, Cond.initialized "java/lang/Math", Cond.code Lib.Math.max.name Lib.Math.max.code 2 (some .int), Cond.methodLink RX1 23 yX2_nextFall, Cond.instanceMethod yX2_nextFall, Cond.selects RX2 yX2_nextFall yX2_nextFall, Cond.initialized RX2, Cond.code yX2_nextFall cX2_nextFall 7 (some .int), Cond.methodLink RX2 65 Lib.Math.max.name]
def wsX4_goodLength_r2 : List Cond := [Cond.fieldLink RX2 39 "ThirdVotes$State" "end" "I", Cond.methodLink RX2 74 yX2_fallsIn, Cond.instanceMethod yX2_fallsIn, Cond.selects RX2 yX2_fallsIn yX2_fallsIn, Cond.code yX2_fallsIn cX2_fallsIn 4 (some .long), Cond.fieldLink RX2 11 "ThirdVotes$State" "levels" "[J", Cond.constantLong RX2 22 (-1), Cond.methodLink RX2 78 yJ13_bitCount_95d88, Cond.static yJ13_bitCount_95d88, Cond.initialized RJ13, Cond.code yJ13_bitCount_95d88 cJ13_bitCount_95d88 2 (some .int), Cond.constantLong RJ13 314 (6148914691236517205), Cond.constantLong RJ13 316 (3689348814741910323), Cond.constantLong RJ13 318 (1085102592571150095), Cond.methodLink RX2 84 yX2_behindRow, Cond.static yX2_behindRow, Cond.code yX2_behindRow cX2_behindRow 1 (some .int), Cond.methodLink RX1 29 yX2_end, Cond.instanceMethod yX2_end, Cond.selects RX2 yX2_end yX2_end, Cond.code yX2_end cX2_end 1 (some .int), Cond.methodLink RX1 33 yX1_tellFrom, Cond.instanceMethod yX1_tellFrom, Cond.selects RX1 yX1_tellFrom yX1_tellFrom]
def wsX4_goodLength_r3 : List Cond := [Cond.code yX1_tellFrom cX1_tellFrom 8 (some .int), Cond.fieldLink RX1 56 "ThirdVotes$Receiver" "doubtfulBits" "I", Cond.methodLink RX1 59 yX1_tellBit, Cond.instanceMethod yX1_tellBit, Cond.selects RX1 yX1_tellBit yX1_tellBit, Cond.code yX1_tellBit cX1_tellBit 6 (some .int), Cond.methodLink RX1 79 yX2_levelAt, Cond.instanceMethod yX2_levelAt, Cond.selects RX2 yX2_levelAt yX2_levelAt, Cond.code yX2_levelAt cX2_levelAt 2 (some .int), Cond.methodLink RX1 62 yX1_thirdLook, Cond.static yX1_thirdLook, Cond.code yX1_thirdLook cX1_thirdLook 2 (some .int), Cond.methodLink RX1 65 yX2_setting, Cond.instanceMethod yX2_setting, Cond.selects RX2 yX2_setting yX2_setting, Cond.code yX2_setting cX2_setting 2 (some .int), Cond.fieldLink RX2 19 "ThirdVotes$State" "settings" "[I", Cond.methodLink RX1 68 yX1_kindOf, Cond.static yX1_kindOf, Cond.code yX1_kindOf cX1_kindOf 3 (some .int), Cond.methodLink RX1 72 yX1_wordIn, Cond.static yX1_wordIn, Cond.code yX1_wordIn cX1_wordIn 1 (some .int)]
def wsX4_goodLength_r4 : List Cond := [Cond.static yX4_parityOf, Cond.code yX4_parityOf cX4_parityOf 3 (some .int), Cond.methodLink RX4 175 yJ6_bitCount_0f7a4, Cond.static yJ6_bitCount_0f7a4, Cond.initialized RJ6, Cond.code yJ6_bitCount_0f7a4 cJ6_bitCount_0f7a4 1 (some .int), Cond.constant RJ6 265 (1431655765), Cond.constant RJ6 266 (858993459), Cond.constant RJ6 267 (252645135), Cond.methodLink RX1 75 yX1_add, Cond.instanceMethod yX1_add, Cond.selects RX1 yX1_add yX1_add, Cond.code yX1_add cX1_add 5 none, Cond.fieldLink RX1 13 "ThirdVotes$Receiver" "notes" "[[I", Cond.methodLink RX4 165 yX1_isAllWell, Cond.instanceMethod yX1_isAllWell, Cond.selects RX1 yX1_isAllWell yX1_isAllWell, Cond.code yX1_isAllWell cX1_isAllWell 3 (some .boolean), Cond.methodLink RX1 50 yX2_wordCount, Cond.instanceMethod yX2_wordCount, Cond.selects RX2 yX2_wordCount yX2_wordCount, Cond.code yX2_wordCount cX2_wordCount 1 (some .int), Cond.fieldLink RX2 43 "ThirdVotes$State" "wordCount" "I", Cond.methodLink RX1 53 yX2_wordOfRank]
def wsX4_goodLength_r5 : List Cond := [Cond.instanceMethod yX2_wordOfRank, Cond.selects RX2 yX2_wordOfRank yX2_wordOfRank, Cond.code yX2_wordOfRank cX2_wordOfRank 2 (some .int), Cond.fieldLink RX2 15 "ThirdVotes$State" "words" "[I", Cond.methodLink RX1 46 yX1_isGoodWord, Cond.instanceMethod yX1_isGoodWord, Cond.selects RX1 yX1_isGoodWord yX1_isGoodWord, Cond.code yX1_isGoodWord cX1_isGoodWord 3 (some .boolean), Cond.methodLink RX1 43 yX1_note, Cond.instanceMethod yX1_note, Cond.selects RX1 yX1_note yX1_note, Cond.code yX1_note cX1_note 3 (some .int)]
def wsX4_goodLength : List Cond := .code yX4_goodLength cX4_goodLength 4 (some .int) :: ((wsX4_goodLength_r1 ++ (wsX4_goodLength_r2 ++ (wsX4_goodLength_r3 ++ (wsX4_goodLength_r4 ++ wsX4_goodLength_r5)))) ++ wsX40 ++ wsX10 ++ wsX20)
def wsX4_harm_r1 : List Cond := [Cond.fieldLink RX4 16 "ThirdVotes" "trial" "LThirdVotes$State;", Cond.fieldLink RX4 12 "ThirdVotes" "state" "LThirdVotes$State;", Cond.methodLink RX4 65 yX4_isDisturbance, Cond.static yX4_isDisturbance, Cond.initialized RX4, Cond.code yX4_isDisturbance cX4_isDisturbance 1 (some .boolean), Cond.methodLink RX4 105 yX2_copyFrom, Cond.instanceMethod yX2_copyFrom, Cond.selects RX2 yX2_copyFrom yX2_copyFrom, Cond.initialized RX2, Cond.code yX2_copyFrom cX2_copyFrom 2 none, Cond.fieldLink RX2 11 "ThirdVotes$State" "levels" "[J", Cond.methodLink RX2 33 arraycopyName, Cond.native arraycopyName, Cond.static arraycopyName, Cond.initialized "java/lang/System", Cond.fieldLink RX2 15 "ThirdVotes$State" "words" "[I", Cond.fieldLink RX2 19 "ThirdVotes$State" "settings" "[I", Cond.fieldLink RX2 39 "ThirdVotes$State" "end" "I", Cond.fieldLink RX2 43 "ThirdVotes$State" "wordCount" "I", Cond.methodLink RX4 58 yX2_end, Cond.instanceMethod yX2_end, Cond.selects RX2 yX2_end yX2_end, Cond.code yX2_end cX2_end 1 (some .int)]
def wsX4_harm_r2 : List Cond := [Cond.methodLink RX4 68 yX2_flip, Cond.instanceMethod yX2_flip, Cond.selects RX2 yX2_flip yX2_flip, Cond.code yX2_flip cX2_flip 5 (some .int), Cond.methodLink RX2 65 Lib.Math.max.name, Cond.static Lib.Math.max.name, Cond.initialized "java/lang/Math", Cond.code Lib.Math.max.name Lib.Math.max.code 2 (some .int), Cond.methodLink RX2 71 yX2_levelAt, Cond.instanceMethod yX2_levelAt, Cond.selects RX2 yX2_levelAt yX2_levelAt, Cond.code yX2_levelAt cX2_levelAt 2 (some .int), Cond.methodLink RX4 81 yX2_setting, Cond.instanceMethod yX2_setting, Cond.selects RX2 yX2_setting yX2_setting, Cond.code yX2_setting cX2_setting 2 (some .int), Cond.methodLink RX4 168 yX4_isWellWith, Cond.instanceMethod yX4_isWellWith, Cond.selects RX4 yX4_isWellWith yX4_isWellWith, Cond.code yX4_isWellWith cX4_isWellWith 3 (some .boolean), Cond.fieldLink RX4 22 "ThirdVotes" "receiver" "LThirdVotes$Receiver;", Cond.methodLink RX4 137 yX1_receive, Cond.instanceMethod yX1_receive, Cond.selects RX1 yX1_receive yX1_receive]
def wsX4_harm_r3 : List Cond := [Cond.initialized RX1, Cond.code yX1_receive cX1_receive 5 none, Cond.fieldLink RX1 16 "ThirdVotes$Receiver" "count" "I", Cond.fieldLink RX1 20 "ThirdVotes$Receiver" "falseStarts" "I", Cond.methodLink RX1 37 Lib.Math.max.name, Cond.methodLink RX1 23 yX2_nextFall, Cond.instanceMethod yX2_nextFall, Cond.selects RX2 yX2_nextFall yX2_nextFall, Cond.code yX2_nextFall cX2_nextFall 7 (some .int), Cond.methodLink RX2 74 yX2_fallsIn, Cond.instanceMethod yX2_fallsIn, Cond.selects RX2 yX2_fallsIn yX2_fallsIn, Cond.code yX2_fallsIn cX2_fallsIn 4 (some .long), Cond.constantLong RX2 22 (-1), Cond.methodLink RX2 78 yJ13_bitCount_95d88, Cond.static yJ13_bitCount_95d88, Cond.initialized RJ13, Cond.code yJ13_bitCount_95d88 cJ13_bitCount_95d88 2 (some .int), Cond.constantLong RJ13 314 (6148914691236517205), Cond.constantLong RJ13 316 (3689348814741910323), Cond.constantLong RJ13 318 (1085102592571150095), Cond.methodLink RX2 84 yX2_behindRow, Cond.static yX2_behindRow, Cond.code yX2_behindRow cX2_behindRow 1 (some .int)]
def wsX4_harm_r4 : List Cond := [Cond.methodLink RX1 29 yX2_end, Cond.methodLink RX1 33 yX1_tellFrom, Cond.instanceMethod yX1_tellFrom, Cond.selects RX1 yX1_tellFrom yX1_tellFrom, Cond.code yX1_tellFrom cX1_tellFrom 8 (some .int), Cond.fieldLink RX1 56 "ThirdVotes$Receiver" "doubtfulBits" "I", Cond.methodLink RX1 59 yX1_tellBit, Cond.instanceMethod yX1_tellBit, Cond.selects RX1 yX1_tellBit yX1_tellBit, Cond.code yX1_tellBit cX1_tellBit 6 (some .int), Cond.methodLink RX1 79 yX2_levelAt, Cond.methodLink RX1 62 yX1_thirdLook, Cond.static yX1_thirdLook, Cond.code yX1_thirdLook cX1_thirdLook 2 (some .int), Cond.methodLink RX1 65 yX2_setting, Cond.methodLink RX1 68 yX1_kindOf, Cond.static yX1_kindOf, Cond.code yX1_kindOf cX1_kindOf 3 (some .int), Cond.methodLink RX1 72 yX1_wordIn, Cond.static yX1_wordIn, Cond.code yX1_wordIn cX1_wordIn 1 (some .int), Cond.static yX4_parityOf, Cond.code yX4_parityOf cX4_parityOf 3 (some .int), Cond.methodLink RX4 175 yJ6_bitCount_0f7a4]
def wsX4_harm_r5 : List Cond := [Cond.static yJ6_bitCount_0f7a4, Cond.initialized RJ6, Cond.code yJ6_bitCount_0f7a4 cJ6_bitCount_0f7a4 1 (some .int), Cond.constant RJ6 265 (1431655765), Cond.constant RJ6 266 (858993459), Cond.constant RJ6 267 (252645135), Cond.methodLink RX1 75 yX1_add, Cond.instanceMethod yX1_add, Cond.selects RX1 yX1_add yX1_add, Cond.code yX1_add cX1_add 5 none, Cond.fieldLink RX1 13 "ThirdVotes$Receiver" "notes" "[[I", Cond.methodLink RX4 165 yX1_isAllWell, Cond.instanceMethod yX1_isAllWell, Cond.selects RX1 yX1_isAllWell yX1_isAllWell, Cond.code yX1_isAllWell cX1_isAllWell 3 (some .boolean), Cond.methodLink RX1 50 yX2_wordCount, Cond.instanceMethod yX2_wordCount, Cond.selects RX2 yX2_wordCount yX2_wordCount, Cond.code yX2_wordCount cX2_wordCount 1 (some .int), Cond.methodLink RX1 53 yX2_wordOfRank, Cond.instanceMethod yX2_wordOfRank, Cond.selects RX2 yX2_wordOfRank yX2_wordOfRank, Cond.code yX2_wordOfRank cX2_wordOfRank 2 (some .int), Cond.methodLink RX1 46 yX1_isGoodWord]
def wsX4_harm_r6 : List Cond := [Cond.instanceMethod yX1_isGoodWord, Cond.selects RX1 yX1_isGoodWord yX1_isGoodWord, Cond.code yX1_isGoodWord cX1_isGoodWord 3 (some .boolean), Cond.methodLink RX1 43 yX1_note, Cond.instanceMethod yX1_note, Cond.selects RX1 yX1_note yX1_note, Cond.code yX1_note cX1_note 3 (some .int)]
def wsX4_harm : List Cond := .code yX4_harm cX4_harm 4 (some .int) :: ((wsX4_harm_r1 ++ (wsX4_harm_r2 ++ (wsX4_harm_r3 ++ (wsX4_harm_r4 ++ (wsX4_harm_r5 ++ wsX4_harm_r6))))) ++ wsX40 ++ wsX20 ++ wsX10)
def wsX4_ifSent_r1 : List Cond := [Cond.fieldLink RX4 16 "ThirdVotes" "trial" "LThirdVotes$State;", Cond.fieldLink RX4 12 "ThirdVotes" "state" "LThirdVotes$State;", Cond.fieldLink RX4 22 "ThirdVotes" "receiver" "LThirdVotes$Receiver;", Cond.methodLink RX4 40 yX4_isWord, Cond.static yX4_isWord, Cond.initialized RX4, Cond.code yX4_isWord cX4_isWord 1 (some .boolean), Cond.methodLink RX4 105 yX2_copyFrom, Cond.instanceMethod yX2_copyFrom, Cond.selects RX2 yX2_copyFrom yX2_copyFrom, Cond.initialized RX2, Cond.code yX2_copyFrom cX2_copyFrom 2 none, Cond.fieldLink RX2 11 "ThirdVotes$State" "levels" "[J", Cond.methodLink RX2 33 arraycopyName, Cond.native arraycopyName, Cond.static arraycopyName, Cond.initialized "java/lang/System", Cond.fieldLink RX2 15 "ThirdVotes$State" "words" "[I", Cond.fieldLink RX2 19 "ThirdVotes$State" "settings" "[I", Cond.fieldLink RX2 39 "ThirdVotes$State" "end" "I", Cond.fieldLink RX2 43 "ThirdVotes$State" "wordCount" "I", Cond.methodLink RX4 55 yX2_addWord, Cond.instanceMethod yX2_addWord, Cond.selects RX2 yX2_addWord yX2_addWord]
def wsX4_ifSent_r2 : List Cond := [Cond.code yX2_addWord cX2_addWord 7 (some .boolean), Cond.methodLink RX2 50 yX2_ticksOfWord, Cond.instanceMethod yX2_ticksOfWord, Cond.selects RX2 yX2_ticksOfWord yX2_ticksOfWord, Cond.code yX2_ticksOfWord cX2_ticksOfWord 1 (some .int), Cond.methodLink RX2 46 yX2_bitsOfWord, Cond.instanceMethod yX2_bitsOfWord, Cond.selects RX2 yX2_bitsOfWord yX2_bitsOfWord, Cond.code yX2_bitsOfWord cX2_bitsOfWord 2 (some .int), Cond.methodLink RX2 53 yX2_hasRoom, Cond.instanceMethod yX2_hasRoom, Cond.selects RX2 yX2_hasRoom yX2_hasRoom, Cond.code yX2_hasRoom cX2_hasRoom 2 (some .boolean), Cond.methodLink RX2 57 yX2_bitsOf, Cond.instanceMethod yX2_bitsOf, Cond.selects RX2 yX2_bitsOf yX2_bitsOf, Cond.code yX2_bitsOf cX2_bitsOf 4 (some .int), Cond.static yX4_parityOf, Cond.code yX4_parityOf cX4_parityOf 3 (some .int), Cond.methodLink RX4 175 yJ6_bitCount_0f7a4, Cond.static yJ6_bitCount_0f7a4, Cond.initialized RJ6, Cond.code yJ6_bitCount_0f7a4 cJ6_bitCount_0f7a4 1 (some .int), Cond.constant RJ6 265 (1431655765)]
def wsX4_ifSent_r3 : List Cond := [Cond.constant RJ6 266 (858993459), Cond.constant RJ6 267 (252645135), Cond.methodLink RX2 61 yX2_putLow, Cond.instanceMethod yX2_putLow, Cond.selects RX2 yX2_putLow yX2_putLow, Cond.code yX2_putLow cX2_putLow 4 none, Cond.methodLink RX2 65 Lib.Math.max.name, Cond.static Lib.Math.max.name, Cond.initialized "java/lang/Math", Cond.code Lib.Math.max.name Lib.Math.max.code 2 (some .int), Cond.constantLong RX2 22 (-1), Cond.methodLink RX4 81 yX2_setting, Cond.instanceMethod yX2_setting, Cond.selects RX2 yX2_setting yX2_setting, Cond.code yX2_setting cX2_setting 2 (some .int), Cond.methodLink RX4 137 yX1_receive, Cond.instanceMethod yX1_receive, Cond.selects RX1 yX1_receive yX1_receive, Cond.initialized RX1, Cond.code yX1_receive cX1_receive 5 none, Cond.fieldLink RX1 16 "ThirdVotes$Receiver" "count" "I", Cond.fieldLink RX1 20 "ThirdVotes$Receiver" "falseStarts" "I", Cond.methodLink RX1 37 Lib.Math.max.name, Cond.methodLink RX1 23 yX2_nextFall]
def wsX4_ifSent_r4 : List Cond := [Cond.instanceMethod yX2_nextFall, Cond.selects RX2 yX2_nextFall yX2_nextFall, Cond.code yX2_nextFall cX2_nextFall 7 (some .int), Cond.methodLink RX2 74 yX2_fallsIn, Cond.instanceMethod yX2_fallsIn, Cond.selects RX2 yX2_fallsIn yX2_fallsIn, Cond.code yX2_fallsIn cX2_fallsIn 4 (some .long), Cond.methodLink RX2 78 yJ13_bitCount_95d88, Cond.static yJ13_bitCount_95d88, Cond.initialized RJ13, Cond.code yJ13_bitCount_95d88 cJ13_bitCount_95d88 2 (some .int), Cond.constantLong RJ13 314 (6148914691236517205), Cond.constantLong RJ13 316 (3689348814741910323), Cond.constantLong RJ13 318 (1085102592571150095), Cond.methodLink RX2 84 yX2_behindRow, Cond.static yX2_behindRow, Cond.code yX2_behindRow cX2_behindRow 1 (some .int), Cond.methodLink RX1 29 yX2_end, Cond.instanceMethod yX2_end, Cond.selects RX2 yX2_end yX2_end, Cond.code yX2_end cX2_end 1 (some .int), Cond.methodLink RX1 33 yX1_tellFrom, Cond.instanceMethod yX1_tellFrom, Cond.selects RX1 yX1_tellFrom yX1_tellFrom]
def wsX4_ifSent_r5 : List Cond := [Cond.code yX1_tellFrom cX1_tellFrom 8 (some .int), Cond.fieldLink RX1 56 "ThirdVotes$Receiver" "doubtfulBits" "I", Cond.methodLink RX1 59 yX1_tellBit, Cond.instanceMethod yX1_tellBit, Cond.selects RX1 yX1_tellBit yX1_tellBit, Cond.code yX1_tellBit cX1_tellBit 6 (some .int), Cond.methodLink RX1 79 yX2_levelAt, Cond.instanceMethod yX2_levelAt, Cond.selects RX2 yX2_levelAt yX2_levelAt, Cond.code yX2_levelAt cX2_levelAt 2 (some .int), Cond.methodLink RX1 62 yX1_thirdLook, Cond.static yX1_thirdLook, Cond.code yX1_thirdLook cX1_thirdLook 2 (some .int), Cond.methodLink RX1 65 yX2_setting, Cond.methodLink RX1 68 yX1_kindOf, Cond.static yX1_kindOf, Cond.code yX1_kindOf cX1_kindOf 3 (some .int), Cond.methodLink RX1 72 yX1_wordIn, Cond.static yX1_wordIn, Cond.code yX1_wordIn cX1_wordIn 1 (some .int), Cond.methodLink RX1 75 yX1_add, Cond.instanceMethod yX1_add, Cond.selects RX1 yX1_add yX1_add, Cond.code yX1_add cX1_add 5 none]
def wsX4_ifSent_r6 : List Cond := [Cond.fieldLink RX1 13 "ThirdVotes$Receiver" "notes" "[[I", Cond.methodLink RX4 172 yX1_countGoodWord, Cond.instanceMethod yX1_countGoodWord, Cond.selects RX1 yX1_countGoodWord yX1_countGoodWord, Cond.code yX1_countGoodWord cX1_countGoodWord 4 (some .int), Cond.methodLink RX1 46 yX1_isGoodWord, Cond.instanceMethod yX1_isGoodWord, Cond.selects RX1 yX1_isGoodWord yX1_isGoodWord, Cond.code yX1_isGoodWord cX1_isGoodWord 3 (some .boolean), Cond.methodLink RX1 43 yX1_note, Cond.instanceMethod yX1_note, Cond.selects RX1 yX1_note yX1_note, Cond.code yX1_note cX1_note 3 (some .int)]
def wsX4_ifSent : List Cond := .code yX4_ifSent cX4_ifSent 2 (some .int) :: ((wsX4_ifSent_r1 ++ (wsX4_ifSent_r2 ++ (wsX4_ifSent_r3 ++ (wsX4_ifSent_r4 ++ (wsX4_ifSent_r5 ++ wsX4_ifSent_r6))))) ++ wsX40 ++ wsX20 ++ wsX10)
def wsX5_init : List Cond := .code yX5_init cX5_init 1 none :: ([.methodLink RX5 1 objectInit, .instanceMethod objectInit, .code objectInit ⟨#[0xb1]⟩ 1 none, .arrayClass .int, .fieldLink RX5 7 "ThirdVotesModel" "state" "[I", .fieldLink RX5 13 "ThirdVotesModel" "history" "[I", .fieldLink RX5 16 "ThirdVotesModel" "snapshot" "[I", .fieldLink RX5 19 "ThirdVotesModel" "spare" "[I", .fieldLink RX5 22 "ThirdVotesModel" "text" "[I", .fieldLink RX5 25 "ThirdVotesModel" "begins" "[I", .fieldLink RX5 28 "ThirdVotesModel" "times" "[I", .fieldLink RX5 31 "ThirdVotesModel" "kinds" "[I", .fieldLink RX5 34 "ThirdVotesModel" "words" "[I", .fieldLink RX5 37 "ThirdVotesModel" "starts" "[I", .fieldLink RX5 40 "ThirdVotesModel" "doubts" "[I", .fieldLink RX5 43 "ThirdVotesModel" "lasts" "[I"] ++ wsX50)
def wsX5_within : List Cond := .code yX5_within cX5_within 3 (some .boolean) :: ([])
def wsX5_push : List Cond := .code yX5_push cX5_push 2 none :: ([.fieldLink RX5 46 "ThirdVotesModel" "states" "I", .fieldLink RX5 13 "ThirdVotesModel" "history" "[I", .fieldLink RX5 19 "ThirdVotesModel" "spare" "[I"] ++ wsX50)
def wsX5_putAside : List Cond := .code yX5_putAside cX5_putAside 2 none :: ([.fieldLink RX5 19 "ThirdVotesModel" "spare" "[I", .fieldLink RX5 7 "ThirdVotesModel" "state" "[I"] ++ wsX50)
def wsX5_takeBack : List Cond := .code yX5_takeBack cX5_takeBack 2 none :: ([.fieldLink RX5 7 "ThirdVotesModel" "state" "[I", .fieldLink RX5 19 "ThirdVotesModel" "spare" "[I"] ++ wsX50)
def wsX5_record : List Cond := .code yX5_record cX5_record 1 none :: ([.methodLink RX5 50 yX5_putAside, .instanceMethod yX5_putAside, .selects RX5 yX5_putAside yX5_putAside, .initialized RX5, .code yX5_putAside cX5_putAside 2 none, .fieldLink RX5 19 "ThirdVotesModel" "spare" "[I", .fieldLink RX5 7 "ThirdVotesModel" "state" "[I", .methodLink RX5 53 yX5_push, .instanceMethod yX5_push, .selects RX5 yX5_push yX5_push, .code yX5_push cX5_push 2 none, .fieldLink RX5 46 "ThirdVotesModel" "states" "I", .fieldLink RX5 13 "ThirdVotesModel" "history" "[I"] ++ wsX50)
def wsX5_undo : List Cond := .code yX5_undo cX5_undo 2 (some .int) :: ([.fieldLink RX5 46 "ThirdVotesModel" "states" "I", .fieldLink RX5 7 "ThirdVotesModel" "state" "[I", .fieldLink RX5 13 "ThirdVotesModel" "history" "[I"] ++ wsX50)
def wsX5_keep : List Cond := .code yX5_keep cX5_keep 2 (some .int) :: ([.fieldLink RX5 16 "ThirdVotesModel" "snapshot" "[I", .fieldLink RX5 7 "ThirdVotesModel" "state" "[I", .fieldLink RX5 56 "ThirdVotesModel" "hasSnapshot" "Z"] ++ wsX50)
def wsX5_restore : List Cond := .code yX5_restore cX5_restore 2 (some .int) :: ([.fieldLink RX5 56 "ThirdVotesModel" "hasSnapshot" "Z", .fieldLink RX5 7 "ThirdVotesModel" "state" "[I", .fieldLink RX5 16 "ThirdVotesModel" "snapshot" "[I", .methodLink RX5 60 yX5_record, .instanceMethod yX5_record, .selects RX5 yX5_record yX5_record, .initialized RX5, .code yX5_record cX5_record 1 none, .methodLink RX5 50 yX5_putAside, .instanceMethod yX5_putAside, .selects RX5 yX5_putAside yX5_putAside, .code yX5_putAside cX5_putAside 2 none, .fieldLink RX5 19 "ThirdVotesModel" "spare" "[I", .methodLink RX5 53 yX5_push, .instanceMethod yX5_push, .selects RX5 yX5_push yX5_push, .code yX5_push cX5_push 2 none, .fieldLink RX5 46 "ThirdVotesModel" "states" "I", .fieldLink RX5 13 "ThirdVotesModel" "history" "[I"] ++ wsX50)
def wsX5_ones : List Cond := .code yX5_ones cX5_ones 3 (some .int) :: ([])
def wsX5_parityOf : List Cond := .code yX5_parityOf cX5_parityOf 3 (some .int) :: ([.fieldLink RX5 7 "ThirdVotesModel" "state" "[I", .methodLink RX5 63 yX5_ones, .static yX5_ones, .initialized RX5, .code yX5_ones cX5_ones 3 (some .int)] ++ wsX50)
def wsX5_bitsOf : List Cond := .code yX5_bitsOf cX5_bitsOf 4 (some .int) :: ([.fieldLink RX5 7 "ThirdVotesModel" "state" "[I", .methodLink RX5 67 yX5_parityOf, .instanceMethod yX5_parityOf, .selects RX5 yX5_parityOf yX5_parityOf, .initialized RX5, .code yX5_parityOf cX5_parityOf 3 (some .int), .methodLink RX5 63 yX5_ones, .static yX5_ones, .code yX5_ones cX5_ones 3 (some .int)] ++ wsX50)
def wsX5_bitMany : List Cond := .code yX5_bitMany cX5_bitMany 1 (some .int) :: ([.fieldLink RX5 7 "ThirdVotesModel" "state" "[I"] ++ wsX50)
def wsX5_lengthOf : List Cond := .code yX5_lengthOf cX5_lengthOf 2 (some .int) :: ([.fieldLink RX5 7 "ThirdVotesModel" "state" "[I"] ++ wsX50)
def wsX5_putWord : List Cond := .code yX5_putWord cX5_putWord 7 (some .boolean) :: ([.fieldLink RX5 7 "ThirdVotesModel" "state" "[I", .methodLink RX5 70 yX5_bitMany, .instanceMethod yX5_bitMany, .selects RX5 yX5_bitMany yX5_bitMany, .initialized RX5, .code yX5_bitMany cX5_bitMany 1 (some .int), .methodLink RX5 74 yX5_lengthOf, .instanceMethod yX5_lengthOf, .selects RX5 yX5_lengthOf yX5_lengthOf, .code yX5_lengthOf cX5_lengthOf 2 (some .int), .methodLink RX5 77 yX5_bitsOf, .instanceMethod yX5_bitsOf, .selects RX5 yX5_bitsOf yX5_bitsOf, .code yX5_bitsOf cX5_bitsOf 4 (some .int), .methodLink RX5 67 yX5_parityOf, .instanceMethod yX5_parityOf, .selects RX5 yX5_parityOf yX5_parityOf, .code yX5_parityOf cX5_parityOf 3 (some .int), .methodLink RX5 63 yX5_ones, .static yX5_ones, .code yX5_ones cX5_ones 3 (some .int)] ++ wsX50)
def wsX5_putLevel : List Cond := .code yX5_putLevel cX5_putLevel 4 (some .boolean) :: ([.fieldLink RX5 7 "ThirdVotesModel" "state" "[I"] ++ wsX50)
def wsX5_send_r1 : List Cond := [Cond.fieldLink RX5 7 "ThirdVotesModel" "state" "[I", Cond.methodLink RX5 80 yX5_within, Cond.static yX5_within, Cond.initialized RX5, Cond.code yX5_within cX5_within 3 (some .boolean), Cond.methodLink RX5 50 yX5_putAside, Cond.instanceMethod yX5_putAside, Cond.selects RX5 yX5_putAside yX5_putAside, Cond.code yX5_putAside cX5_putAside 2 none, Cond.fieldLink RX5 19 "ThirdVotesModel" "spare" "[I", Cond.methodLink RX5 84 yX5_putWord, Cond.instanceMethod yX5_putWord, Cond.selects RX5 yX5_putWord yX5_putWord, Cond.code yX5_putWord cX5_putWord 7 (some .boolean), Cond.methodLink RX5 70 yX5_bitMany, Cond.instanceMethod yX5_bitMany, Cond.selects RX5 yX5_bitMany yX5_bitMany, Cond.code yX5_bitMany cX5_bitMany 1 (some .int), Cond.methodLink RX5 74 yX5_lengthOf, Cond.instanceMethod yX5_lengthOf, Cond.selects RX5 yX5_lengthOf yX5_lengthOf, Cond.code yX5_lengthOf cX5_lengthOf 2 (some .int), Cond.methodLink RX5 77 yX5_bitsOf, Cond.instanceMethod yX5_bitsOf]
def wsX5_send_r2 : List Cond := [Cond.selects RX5 yX5_bitsOf yX5_bitsOf, Cond.code yX5_bitsOf cX5_bitsOf 4 (some .int), Cond.methodLink RX5 67 yX5_parityOf, Cond.instanceMethod yX5_parityOf, Cond.selects RX5 yX5_parityOf yX5_parityOf, Cond.code yX5_parityOf cX5_parityOf 3 (some .int), Cond.methodLink RX5 63 yX5_ones, Cond.static yX5_ones, Cond.code yX5_ones cX5_ones 3 (some .int), Cond.methodLink RX5 53 yX5_push, Cond.instanceMethod yX5_push, Cond.selects RX5 yX5_push yX5_push, Cond.code yX5_push cX5_push 2 none, Cond.fieldLink RX5 46 "ThirdVotesModel" "states" "I", Cond.fieldLink RX5 13 "ThirdVotesModel" "history" "[I"]
def wsX5_send : List Cond := .code yX5_send cX5_send 2 (some .int) :: ((wsX5_send_r1 ++ wsX5_send_r2) ++ wsX50)
def wsX5_putsLevel : List Cond := .code yX5_putsLevel cX5_putsLevel 3 (some .int) :: ([.fieldLink RX5 7 "ThirdVotesModel" "state" "[I", .methodLink RX5 80 yX5_within, .static yX5_within, .initialized RX5, .code yX5_within cX5_within 3 (some .boolean), .methodLink RX5 50 yX5_putAside, .instanceMethod yX5_putAside, .selects RX5 yX5_putAside yX5_putAside, .code yX5_putAside cX5_putAside 2 none, .fieldLink RX5 19 "ThirdVotesModel" "spare" "[I", .methodLink RX5 88 yX5_putLevel, .instanceMethod yX5_putLevel, .selects RX5 yX5_putLevel yX5_putLevel, .code yX5_putLevel cX5_putLevel 4 (some .boolean), .methodLink RX5 53 yX5_push, .instanceMethod yX5_push, .selects RX5 yX5_push yX5_push, .code yX5_push cX5_push 2 none, .fieldLink RX5 46 "ThirdVotesModel" "states" "I", .fieldLink RX5 13 "ThirdVotesModel" "history" "[I"] ++ wsX50)
def wsX5_pause : List Cond := .code yX5_pause cX5_pause 2 (some .int) :: ([.methodLink RX5 92 yX5_putsLevel, .instanceMethod yX5_putsLevel, .selects RX5 yX5_putsLevel yX5_putsLevel, .initialized RX5, .code yX5_putsLevel cX5_putsLevel 3 (some .int), .fieldLink RX5 7 "ThirdVotesModel" "state" "[I", .methodLink RX5 80 yX5_within, .static yX5_within, .code yX5_within cX5_within 3 (some .boolean), .methodLink RX5 50 yX5_putAside, .instanceMethod yX5_putAside, .selects RX5 yX5_putAside yX5_putAside, .code yX5_putAside cX5_putAside 2 none, .fieldLink RX5 19 "ThirdVotesModel" "spare" "[I", .methodLink RX5 88 yX5_putLevel, .instanceMethod yX5_putLevel, .selects RX5 yX5_putLevel yX5_putLevel, .code yX5_putLevel cX5_putLevel 4 (some .boolean), .methodLink RX5 53 yX5_push, .instanceMethod yX5_push, .selects RX5 yX5_push yX5_push, .code yX5_push cX5_push 2 none, .fieldLink RX5 46 "ThirdVotesModel" "states" "I", .fieldLink RX5 13 "ThirdVotesModel" "history" "[I"] ++ wsX50)
def wsX5_sendBreak : List Cond := .code yX5_sendBreak cX5_sendBreak 2 (some .int) :: ([.methodLink RX5 92 yX5_putsLevel, .instanceMethod yX5_putsLevel, .selects RX5 yX5_putsLevel yX5_putsLevel, .initialized RX5, .code yX5_putsLevel cX5_putsLevel 3 (some .int), .fieldLink RX5 7 "ThirdVotesModel" "state" "[I", .methodLink RX5 80 yX5_within, .static yX5_within, .code yX5_within cX5_within 3 (some .boolean), .methodLink RX5 50 yX5_putAside, .instanceMethod yX5_putAside, .selects RX5 yX5_putAside yX5_putAside, .code yX5_putAside cX5_putAside 2 none, .fieldLink RX5 19 "ThirdVotesModel" "spare" "[I", .methodLink RX5 88 yX5_putLevel, .instanceMethod yX5_putLevel, .selects RX5 yX5_putLevel yX5_putLevel, .code yX5_putLevel cX5_putLevel 4 (some .boolean), .methodLink RX5 53 yX5_push, .instanceMethod yX5_push, .selects RX5 yX5_push yX5_push, .code yX5_push cX5_push 2 none, .fieldLink RX5 46 "ThirdVotesModel" "states" "I", .fieldLink RX5 13 "ThirdVotesModel" "history" "[I"] ++ wsX50)
def wsX5_flip : List Cond := .code yX5_flip cX5_flip 4 none :: ([.fieldLink RX5 7 "ThirdVotesModel" "state" "[I"] ++ wsX50)
def wsX5_disturb : List Cond := .code yX5_disturb cX5_disturb 5 (some .int) :: ([.fieldLink RX5 7 "ThirdVotesModel" "state" "[I", .methodLink RX5 80 yX5_within, .static yX5_within, .initialized RX5, .code yX5_within cX5_within 3 (some .boolean), .methodLink RX5 60 yX5_record, .instanceMethod yX5_record, .selects RX5 yX5_record yX5_record, .code yX5_record cX5_record 1 none, .methodLink RX5 50 yX5_putAside, .instanceMethod yX5_putAside, .selects RX5 yX5_putAside yX5_putAside, .code yX5_putAside cX5_putAside 2 none, .fieldLink RX5 19 "ThirdVotesModel" "spare" "[I", .methodLink RX5 53 yX5_push, .instanceMethod yX5_push, .selects RX5 yX5_push yX5_push, .code yX5_push cX5_push 2 none, .fieldLink RX5 46 "ThirdVotesModel" "states" "I", .fieldLink RX5 13 "ThirdVotesModel" "history" "[I", .methodLink RX5 96 yX5_flip, .instanceMethod yX5_flip, .selects RX5 yX5_flip yX5_flip, .code yX5_flip cX5_flip 4 none] ++ wsX50)
def wsX5_clear : List Cond := .code yX5_clear cX5_clear 3 (some .int) :: ([.fieldLink RX5 7 "ThirdVotesModel" "state" "[I", .methodLink RX5 60 yX5_record, .instanceMethod yX5_record, .selects RX5 yX5_record yX5_record, .initialized RX5, .code yX5_record cX5_record 1 none, .methodLink RX5 50 yX5_putAside, .instanceMethod yX5_putAside, .selects RX5 yX5_putAside yX5_putAside, .code yX5_putAside cX5_putAside 2 none, .fieldLink RX5 19 "ThirdVotesModel" "spare" "[I", .methodLink RX5 53 yX5_push, .instanceMethod yX5_push, .selects RX5 yX5_push yX5_push, .code yX5_push cX5_push 2 none, .fieldLink RX5 46 "ThirdVotesModel" "states" "I", .fieldLink RX5 13 "ThirdVotesModel" "history" "[I"] ++ wsX50)
def wsX5_isValue : List Cond := .code yX5_isValue cX5_isValue 2 (some .boolean) :: ([.methodLink RX5 80 yX5_within, .static yX5_within, .initialized RX5, .code yX5_within cX5_within 3 (some .boolean)])
def wsX5_set : List Cond := .code yX5_set cX5_set 4 (some .int) :: ([.fieldLink RX5 7 "ThirdVotesModel" "state" "[I", .methodLink RX5 80 yX5_within, .static yX5_within, .initialized RX5, .code yX5_within cX5_within 3 (some .boolean), .methodLink RX5 100 yX5_isValue, .static yX5_isValue, .code yX5_isValue cX5_isValue 2 (some .boolean), .methodLink RX5 60 yX5_record, .instanceMethod yX5_record, .selects RX5 yX5_record yX5_record, .code yX5_record cX5_record 1 none, .methodLink RX5 50 yX5_putAside, .instanceMethod yX5_putAside, .selects RX5 yX5_putAside yX5_putAside, .code yX5_putAside cX5_putAside 2 none, .fieldLink RX5 19 "ThirdVotesModel" "spare" "[I", .methodLink RX5 53 yX5_push, .instanceMethod yX5_push, .selects RX5 yX5_push yX5_push, .code yX5_push cX5_push 2 none, .fieldLink RX5 46 "ThirdVotesModel" "states" "I", .fieldLink RX5 13 "ThirdVotesModel" "history" "[I"] ++ wsX50)
def wsX5_levelAt : List Cond := .code yX5_levelAt cX5_levelAt 2 (some .int) :: ([.fieldLink RX5 7 "ThirdVotesModel" "state" "[I"] ++ wsX50)
def wsX5_isFall : List Cond := .code yX5_isFall cX5_isFall 2 (some .boolean) :: ([.methodLink RX5 106 yX5_levelAt, .instanceMethod yX5_levelAt, .selects RX5 yX5_levelAt yX5_levelAt, .initialized RX5, .code yX5_levelAt cX5_levelAt 2 (some .int), .fieldLink RX5 7 "ThirdVotesModel" "state" "[I"] ++ wsX50)
def wsX5_fallOf : List Cond := .code yX5_fallOf cX5_fallOf 4 (some .int) :: ([.fieldLink RX5 7 "ThirdVotesModel" "state" "[I", .methodLink RX5 121 yX5_isFall, .instanceMethod yX5_isFall, .selects RX5 yX5_isFall yX5_isFall, .initialized RX5, .code yX5_isFall cX5_isFall 2 (some .boolean), .methodLink RX5 106 yX5_levelAt, .instanceMethod yX5_levelAt, .selects RX5 yX5_levelAt yX5_levelAt, .code yX5_levelAt cX5_levelAt 2 (some .int)] ++ wsX50)
def wsX5_learned : List Cond := .code yX5_learned cX5_learned 3 (some .int) :: ([.methodLink RX5 135 yX5_fallOf, .instanceMethod yX5_fallOf, .selects RX5 yX5_fallOf yX5_fallOf, .initialized RX5, .code yX5_fallOf cX5_fallOf 4 (some .int), .fieldLink RX5 7 "ThirdVotesModel" "state" "[I", .methodLink RX5 121 yX5_isFall, .instanceMethod yX5_isFall, .selects RX5 yX5_isFall yX5_isFall, .code yX5_isFall cX5_isFall 2 (some .boolean), .methodLink RX5 106 yX5_levelAt, .instanceMethod yX5_levelAt, .selects RX5 yX5_levelAt yX5_levelAt, .code yX5_levelAt cX5_levelAt 2 (some .int), .methodLink RX5 80 yX5_within, .static yX5_within, .code yX5_within cX5_within 3 (some .boolean)] ++ wsX50)
def wsX5_learn_r1 : List Cond := [Cond.fieldLink RX5 7 "ThirdVotesModel" "state" "[I", Cond.methodLink RX5 103 yX5_learned, Cond.instanceMethod yX5_learned, Cond.selects RX5 yX5_learned yX5_learned, Cond.initialized RX5, Cond.code yX5_learned cX5_learned 3 (some .int), Cond.methodLink RX5 135 yX5_fallOf, Cond.instanceMethod yX5_fallOf, Cond.selects RX5 yX5_fallOf yX5_fallOf, Cond.code yX5_fallOf cX5_fallOf 4 (some .int), Cond.methodLink RX5 121 yX5_isFall, Cond.instanceMethod yX5_isFall, Cond.selects RX5 yX5_isFall yX5_isFall, Cond.code yX5_isFall cX5_isFall 2 (some .boolean), Cond.methodLink RX5 106 yX5_levelAt, Cond.instanceMethod yX5_levelAt, Cond.selects RX5 yX5_levelAt yX5_levelAt, Cond.code yX5_levelAt cX5_levelAt 2 (some .int), Cond.methodLink RX5 80 yX5_within, Cond.static yX5_within, Cond.code yX5_within cX5_within 3 (some .boolean), Cond.methodLink RX5 60 yX5_record, Cond.instanceMethod yX5_record, Cond.selects RX5 yX5_record yX5_record]
def wsX5_learn_r2 : List Cond := [Cond.code yX5_record cX5_record 1 none, Cond.methodLink RX5 50 yX5_putAside, Cond.instanceMethod yX5_putAside, Cond.selects RX5 yX5_putAside yX5_putAside, Cond.code yX5_putAside cX5_putAside 2 none, Cond.fieldLink RX5 19 "ThirdVotesModel" "spare" "[I", Cond.methodLink RX5 53 yX5_push, Cond.instanceMethod yX5_push, Cond.selects RX5 yX5_push yX5_push, Cond.code yX5_push cX5_push 2 none, Cond.fieldLink RX5 46 "ThirdVotesModel" "states" "I", Cond.fieldLink RX5 13 "ThirdVotesModel" "history" "[I"]
def wsX5_learn : List Cond := .code yX5_learn cX5_learn 2 (some .int) :: ((wsX5_learn_r1 ++ wsX5_learn_r2) ++ wsX50)
def wsX5_bit : List Cond := .code yX5_bit cX5_bit 7 (some .int) :: ([.fieldLink RX5 40 "ThirdVotesModel" "doubts" "[I", .fieldLink RX5 109 "ThirdVotesModel" "many" "I", .fieldLink RX5 7 "ThirdVotesModel" "state" "[I", .methodLink RX5 106 yX5_levelAt, .instanceMethod yX5_levelAt, .selects RX5 yX5_levelAt yX5_levelAt, .initialized RX5, .code yX5_levelAt cX5_levelAt 2 (some .int)] ++ wsX50)
def wsX5_tells : List Cond := .code yX5_tells cX5_tells 9 (some .boolean) :: ([.fieldLink RX5 40 "ThirdVotesModel" "doubts" "[I", .fieldLink RX5 109 "ThirdVotesModel" "many" "I", .fieldLink RX5 7 "ThirdVotesModel" "state" "[I", .fieldLink RX5 31 "ThirdVotesModel" "kinds" "[I", .fieldLink RX5 34 "ThirdVotesModel" "words" "[I", .fieldLink RX5 37 "ThirdVotesModel" "starts" "[I", .fieldLink RX5 43 "ThirdVotesModel" "lasts" "[I", .methodLink RX5 112 yX5_bit, .instanceMethod yX5_bit, .selects RX5 yX5_bit yX5_bit, .initialized RX5, .code yX5_bit cX5_bit 7 (some .int), .methodLink RX5 106 yX5_levelAt, .instanceMethod yX5_levelAt, .selects RX5 yX5_levelAt yX5_levelAt, .code yX5_levelAt cX5_levelAt 2 (some .int), .methodLink RX5 67 yX5_parityOf, .instanceMethod yX5_parityOf, .selects RX5 yX5_parityOf yX5_parityOf, .code yX5_parityOf cX5_parityOf 3 (some .int), .methodLink RX5 63 yX5_ones, .static yX5_ones, .code yX5_ones cX5_ones 3 (some .int)] ++ wsX50)
def wsX5_receive_r1 : List Cond := [Cond.fieldLink RX5 109 "ThirdVotesModel" "many" "I", Cond.fieldLink RX5 115 "ThirdVotesModel" "falseStarts" "I", Cond.fieldLink RX5 118 "ThirdVotesModel" "doubtful" "I", Cond.fieldLink RX5 7 "ThirdVotesModel" "state" "[I", Cond.fieldLink RX5 43 "ThirdVotesModel" "lasts" "[I", Cond.fieldLink RX5 31 "ThirdVotesModel" "kinds" "[I", Cond.fieldLink RX5 40 "ThirdVotesModel" "doubts" "[I", Cond.methodLink RX5 121 yX5_isFall, Cond.instanceMethod yX5_isFall, Cond.selects RX5 yX5_isFall yX5_isFall, Cond.initialized RX5, Cond.code yX5_isFall cX5_isFall 2 (some .boolean), Cond.methodLink RX5 106 yX5_levelAt, Cond.instanceMethod yX5_levelAt, Cond.selects RX5 yX5_levelAt yX5_levelAt, Cond.code yX5_levelAt cX5_levelAt 2 (some .int), Cond.methodLink RX5 124 yX5_tells, Cond.instanceMethod yX5_tells, Cond.selects RX5 yX5_tells yX5_tells, Cond.code yX5_tells cX5_tells 9 (some .boolean), Cond.fieldLink RX5 34 "ThirdVotesModel" "words" "[I", Cond.fieldLink RX5 37 "ThirdVotesModel" "starts" "[I", Cond.methodLink RX5 112 yX5_bit, Cond.instanceMethod yX5_bit]
def wsX5_receive_r2 : List Cond := [Cond.selects RX5 yX5_bit yX5_bit, Cond.code yX5_bit cX5_bit 7 (some .int), Cond.methodLink RX5 67 yX5_parityOf, Cond.instanceMethod yX5_parityOf, Cond.selects RX5 yX5_parityOf yX5_parityOf, Cond.code yX5_parityOf cX5_parityOf 3 (some .int), Cond.methodLink RX5 63 yX5_ones, Cond.static yX5_ones, Cond.code yX5_ones cX5_ones 3 (some .int)]
def wsX5_receive : List Cond := .code yX5_receive cX5_receive 3 none :: ((wsX5_receive_r1 ++ wsX5_receive_r2) ++ wsX50)
def wsX5_ofKind : List Cond := .code yX5_ofKind cX5_ofKind 4 (some .int) :: ([.fieldLink RX5 109 "ThirdVotesModel" "many" "I", .fieldLink RX5 31 "ThirdVotesModel" "kinds" "[I"] ++ wsX50)
def wsX5_isWell : List Cond := .code yX5_isWell cX5_isWell 3 (some .boolean) :: ([.fieldLink RX5 109 "ThirdVotesModel" "many" "I", .fieldLink RX5 7 "ThirdVotesModel" "state" "[I", .fieldLink RX5 31 "ThirdVotesModel" "kinds" "[I", .fieldLink RX5 34 "ThirdVotesModel" "words" "[I"] ++ wsX50)
def wsX5_isWellWith_r1 : List Cond := [Cond.methodLink RX5 127 yX5_receive, Cond.instanceMethod yX5_receive, Cond.selects RX5 yX5_receive yX5_receive, Cond.initialized RX5, Cond.code yX5_receive cX5_receive 3 none, Cond.fieldLink RX5 109 "ThirdVotesModel" "many" "I", Cond.fieldLink RX5 115 "ThirdVotesModel" "falseStarts" "I", Cond.fieldLink RX5 118 "ThirdVotesModel" "doubtful" "I", Cond.fieldLink RX5 7 "ThirdVotesModel" "state" "[I", Cond.fieldLink RX5 43 "ThirdVotesModel" "lasts" "[I", Cond.fieldLink RX5 31 "ThirdVotesModel" "kinds" "[I", Cond.fieldLink RX5 40 "ThirdVotesModel" "doubts" "[I", Cond.methodLink RX5 121 yX5_isFall, Cond.instanceMethod yX5_isFall, Cond.selects RX5 yX5_isFall yX5_isFall, Cond.code yX5_isFall cX5_isFall 2 (some .boolean), Cond.methodLink RX5 106 yX5_levelAt, Cond.instanceMethod yX5_levelAt, Cond.selects RX5 yX5_levelAt yX5_levelAt, Cond.code yX5_levelAt cX5_levelAt 2 (some .int), Cond.methodLink RX5 124 yX5_tells, Cond.instanceMethod yX5_tells, Cond.selects RX5 yX5_tells yX5_tells, Cond.code yX5_tells cX5_tells 9 (some .boolean)]
def wsX5_isWellWith_r2 : List Cond := [Cond.fieldLink RX5 34 "ThirdVotesModel" "words" "[I", Cond.fieldLink RX5 37 "ThirdVotesModel" "starts" "[I", Cond.methodLink RX5 112 yX5_bit, Cond.instanceMethod yX5_bit, Cond.selects RX5 yX5_bit yX5_bit, Cond.code yX5_bit cX5_bit 7 (some .int), Cond.methodLink RX5 67 yX5_parityOf, Cond.instanceMethod yX5_parityOf, Cond.selects RX5 yX5_parityOf yX5_parityOf, Cond.code yX5_parityOf cX5_parityOf 3 (some .int), Cond.methodLink RX5 63 yX5_ones, Cond.static yX5_ones, Cond.code yX5_ones cX5_ones 3 (some .int), Cond.methodLink RX5 131 yX5_isWell, Cond.instanceMethod yX5_isWell, Cond.selects RX5 yX5_isWell yX5_isWell, Cond.code yX5_isWell cX5_isWell 3 (some .boolean)]
def wsX5_isWellWith : List Cond := .code yX5_isWellWith cX5_isWellWith 2 (some .boolean) :: ((wsX5_isWellWith_r1 ++ wsX5_isWellWith_r2) ++ wsX50)
def wsX5_type : List Cond := .code yX5_type cX5_type 2 (some .int) :: ([.fieldLink RX5 138 "ThirdVotesModel" "length" "I", .fieldLink RX5 22 "ThirdVotesModel" "text" "[I"] ++ wsX50)
def wsX5_clearText : List Cond := .code yX5_clearText cX5_clearText 2 (some .int) :: ([.fieldLink RX5 138 "ThirdVotesModel" "length" "I"] ++ wsX50)
def wsX5_codeAt : List Cond := .code yX5_codeAt cX5_codeAt 2 (some .int) :: ([.fieldLink RX5 138 "ThirdVotesModel" "length" "I", .fieldLink RX5 22 "ThirdVotesModel" "text" "[I"] ++ wsX50)
def wsX5_hex : List Cond := .code yX5_hex cX5_hex 1 (some .int) :: ([.methodLink RX5 80 yX5_within, .static yX5_within, .initialized RX5, .code yX5_within cX5_within 3 (some .boolean)])
def wsX5_readNumber : List Cond := .code yX5_readNumber cX5_readNumber 2 (some .int) :: ([.fieldLink RX5 141 "ThirdVotesModel" "at" "I", .methodLink RX5 144 yX5_codeAt, .instanceMethod yX5_codeAt, .selects RX5 yX5_codeAt yX5_codeAt, .initialized RX5, .code yX5_codeAt cX5_codeAt 2 (some .int), .fieldLink RX5 138 "ThirdVotesModel" "length" "I", .fieldLink RX5 22 "ThirdVotesModel" "text" "[I", .methodLink RX5 80 yX5_within, .static yX5_within, .code yX5_within cX5_within 3 (some .boolean)] ++ wsX50)
def wsX5_isRepeat : List Cond := .code yX5_isRepeat cX5_isRepeat 1 (some .boolean) :: ([.fieldLink RX5 141 "ThirdVotesModel" "at" "I", .methodLink RX5 144 yX5_codeAt, .instanceMethod yX5_codeAt, .selects RX5 yX5_codeAt yX5_codeAt, .initialized RX5, .code yX5_codeAt cX5_codeAt 2 (some .int), .fieldLink RX5 138 "ThirdVotesModel" "length" "I", .fieldLink RX5 22 "ThirdVotesModel" "text" "[I", .methodLink RX5 80 yX5_within, .static yX5_within, .code yX5_within cX5_within 3 (some .boolean)] ++ wsX50)
def wsX5_passesItem : List Cond := .code yX5_passesItem cX5_passesItem 2 (some .boolean) :: ([.fieldLink RX5 141 "ThirdVotesModel" "at" "I", .methodLink RX5 144 yX5_codeAt, .instanceMethod yX5_codeAt, .selects RX5 yX5_codeAt yX5_codeAt, .initialized RX5, .code yX5_codeAt cX5_codeAt 2 (some .int), .fieldLink RX5 138 "ThirdVotesModel" "length" "I", .fieldLink RX5 22 "ThirdVotesModel" "text" "[I", .methodLink RX5 147 yX5_readNumber, .instanceMethod yX5_readNumber, .selects RX5 yX5_readNumber yX5_readNumber, .code yX5_readNumber cX5_readNumber 2 (some .int), .methodLink RX5 80 yX5_within, .static yX5_within, .code yX5_within cX5_within 3 (some .boolean), .methodLink RX5 150 yX5_hex, .static yX5_hex, .code yX5_hex cX5_hex 1 (some .int)] ++ wsX50)
def wsX5_fault_r1 : List Cond := [Cond.fieldLink RX5 141 "ThirdVotesModel" "at" "I", Cond.fieldLink RX5 153 "ThirdVotesModel" "deep" "I", Cond.fieldLink RX5 138 "ThirdVotesModel" "length" "I", Cond.methodLink RX5 156 yX5_isRepeat, Cond.instanceMethod yX5_isRepeat, Cond.selects RX5 yX5_isRepeat yX5_isRepeat, Cond.initialized RX5, Cond.code yX5_isRepeat cX5_isRepeat 1 (some .boolean), Cond.methodLink RX5 144 yX5_codeAt, Cond.instanceMethod yX5_codeAt, Cond.selects RX5 yX5_codeAt yX5_codeAt, Cond.code yX5_codeAt cX5_codeAt 2 (some .int), Cond.fieldLink RX5 22 "ThirdVotesModel" "text" "[I", Cond.methodLink RX5 80 yX5_within, Cond.static yX5_within, Cond.code yX5_within cX5_within 3 (some .boolean), Cond.methodLink RX5 159 yX5_passesItem, Cond.instanceMethod yX5_passesItem, Cond.selects RX5 yX5_passesItem yX5_passesItem, Cond.code yX5_passesItem cX5_passesItem 2 (some .boolean), Cond.methodLink RX5 147 yX5_readNumber, Cond.instanceMethod yX5_readNumber, Cond.selects RX5 yX5_readNumber yX5_readNumber, Cond.code yX5_readNumber cX5_readNumber 2 (some .int)]
def wsX5_fault_r2 : List Cond := [Cond.methodLink RX5 150 yX5_hex, Cond.static yX5_hex, Cond.code yX5_hex cX5_hex 1 (some .int)]
def wsX5_fault : List Cond := .code yX5_fault cX5_fault 1 (some .int) :: ((wsX5_fault_r1 ++ wsX5_fault_r2) ++ wsX50)
def wsX5_sendsItem_r1 : List Cond := [Cond.fieldLink RX5 141 "ThirdVotesModel" "at" "I", Cond.methodLink RX5 144 yX5_codeAt, Cond.instanceMethod yX5_codeAt, Cond.selects RX5 yX5_codeAt yX5_codeAt, Cond.initialized RX5, Cond.code yX5_codeAt cX5_codeAt 2 (some .int), Cond.fieldLink RX5 138 "ThirdVotesModel" "length" "I", Cond.fieldLink RX5 22 "ThirdVotesModel" "text" "[I", Cond.methodLink RX5 147 yX5_readNumber, Cond.instanceMethod yX5_readNumber, Cond.selects RX5 yX5_readNumber yX5_readNumber, Cond.code yX5_readNumber cX5_readNumber 2 (some .int), Cond.methodLink RX5 80 yX5_within, Cond.static yX5_within, Cond.code yX5_within cX5_within 3 (some .boolean), Cond.methodLink RX5 88 yX5_putLevel, Cond.instanceMethod yX5_putLevel, Cond.selects RX5 yX5_putLevel yX5_putLevel, Cond.code yX5_putLevel cX5_putLevel 4 (some .boolean), Cond.fieldLink RX5 7 "ThirdVotesModel" "state" "[I", Cond.methodLink RX5 150 yX5_hex, Cond.static yX5_hex, Cond.code yX5_hex cX5_hex 1 (some .int), Cond.methodLink RX5 84 yX5_putWord]
def wsX5_sendsItem_r2 : List Cond := [Cond.instanceMethod yX5_putWord, Cond.selects RX5 yX5_putWord yX5_putWord, Cond.code yX5_putWord cX5_putWord 7 (some .boolean), Cond.methodLink RX5 70 yX5_bitMany, Cond.instanceMethod yX5_bitMany, Cond.selects RX5 yX5_bitMany yX5_bitMany, Cond.code yX5_bitMany cX5_bitMany 1 (some .int), Cond.methodLink RX5 74 yX5_lengthOf, Cond.instanceMethod yX5_lengthOf, Cond.selects RX5 yX5_lengthOf yX5_lengthOf, Cond.code yX5_lengthOf cX5_lengthOf 2 (some .int), Cond.methodLink RX5 77 yX5_bitsOf, Cond.instanceMethod yX5_bitsOf, Cond.selects RX5 yX5_bitsOf yX5_bitsOf, Cond.code yX5_bitsOf cX5_bitsOf 4 (some .int), Cond.methodLink RX5 67 yX5_parityOf, Cond.instanceMethod yX5_parityOf, Cond.selects RX5 yX5_parityOf yX5_parityOf, Cond.code yX5_parityOf cX5_parityOf 3 (some .int), Cond.methodLink RX5 63 yX5_ones, Cond.static yX5_ones, Cond.code yX5_ones cX5_ones 3 (some .int)]
def wsX5_sendsItem : List Cond := .code yX5_sendsItem cX5_sendsItem 3 (some .boolean) :: ((wsX5_sendsItem_r1 ++ wsX5_sendsItem_r2) ++ wsX50)
def wsX5_goOn : List Cond := .code yX5_goOn cX5_goOn 2 none :: ([.fieldLink RX5 141 "ThirdVotesModel" "at" "I", .fieldLink RX5 28 "ThirdVotesModel" "times" "[I", .fieldLink RX5 153 "ThirdVotesModel" "deep" "I", .fieldLink RX5 25 "ThirdVotesModel" "begins" "[I", .methodLink RX5 144 yX5_codeAt, .instanceMethod yX5_codeAt, .selects RX5 yX5_codeAt yX5_codeAt, .initialized RX5, .code yX5_codeAt cX5_codeAt 2 (some .int), .fieldLink RX5 138 "ThirdVotesModel" "length" "I", .fieldLink RX5 22 "ThirdVotesModel" "text" "[I"] ++ wsX50)
def wsX5_perform_r1 : List Cond := [Cond.fieldLink RX5 141 "ThirdVotesModel" "at" "I", Cond.fieldLink RX5 153 "ThirdVotesModel" "deep" "I", Cond.fieldLink RX5 138 "ThirdVotesModel" "length" "I", Cond.fieldLink RX5 28 "ThirdVotesModel" "times" "[I", Cond.fieldLink RX5 25 "ThirdVotesModel" "begins" "[I", Cond.fieldLink RX5 7 "ThirdVotesModel" "state" "[I", Cond.methodLink RX5 162 yX5_fault, Cond.instanceMethod yX5_fault, Cond.selects RX5 yX5_fault yX5_fault, Cond.initialized RX5, Cond.code yX5_fault cX5_fault 1 (some .int), Cond.methodLink RX5 156 yX5_isRepeat, Cond.instanceMethod yX5_isRepeat, Cond.selects RX5 yX5_isRepeat yX5_isRepeat, Cond.code yX5_isRepeat cX5_isRepeat 1 (some .boolean), Cond.methodLink RX5 144 yX5_codeAt, Cond.instanceMethod yX5_codeAt, Cond.selects RX5 yX5_codeAt yX5_codeAt, Cond.code yX5_codeAt cX5_codeAt 2 (some .int), Cond.fieldLink RX5 22 "ThirdVotesModel" "text" "[I", Cond.methodLink RX5 80 yX5_within, Cond.static yX5_within, Cond.code yX5_within cX5_within 3 (some .boolean), Cond.methodLink RX5 159 yX5_passesItem]
def wsX5_perform_r2 : List Cond := [Cond.instanceMethod yX5_passesItem, Cond.selects RX5 yX5_passesItem yX5_passesItem, Cond.code yX5_passesItem cX5_passesItem 2 (some .boolean), Cond.methodLink RX5 147 yX5_readNumber, Cond.instanceMethod yX5_readNumber, Cond.selects RX5 yX5_readNumber yX5_readNumber, Cond.code yX5_readNumber cX5_readNumber 2 (some .int), Cond.methodLink RX5 150 yX5_hex, Cond.static yX5_hex, Cond.code yX5_hex cX5_hex 1 (some .int), Cond.methodLink RX5 50 yX5_putAside, Cond.instanceMethod yX5_putAside, Cond.selects RX5 yX5_putAside yX5_putAside, Cond.code yX5_putAside cX5_putAside 2 none, Cond.fieldLink RX5 19 "ThirdVotesModel" "spare" "[I", Cond.methodLink RX5 165 yX5_sendsItem, Cond.instanceMethod yX5_sendsItem, Cond.selects RX5 yX5_sendsItem yX5_sendsItem, Cond.code yX5_sendsItem cX5_sendsItem 3 (some .boolean), Cond.methodLink RX5 88 yX5_putLevel, Cond.instanceMethod yX5_putLevel, Cond.selects RX5 yX5_putLevel yX5_putLevel, Cond.code yX5_putLevel cX5_putLevel 4 (some .boolean), Cond.methodLink RX5 84 yX5_putWord]
def wsX5_perform_r3 : List Cond := [Cond.instanceMethod yX5_putWord, Cond.selects RX5 yX5_putWord yX5_putWord, Cond.code yX5_putWord cX5_putWord 7 (some .boolean), Cond.methodLink RX5 70 yX5_bitMany, Cond.instanceMethod yX5_bitMany, Cond.selects RX5 yX5_bitMany yX5_bitMany, Cond.code yX5_bitMany cX5_bitMany 1 (some .int), Cond.methodLink RX5 74 yX5_lengthOf, Cond.instanceMethod yX5_lengthOf, Cond.selects RX5 yX5_lengthOf yX5_lengthOf, Cond.code yX5_lengthOf cX5_lengthOf 2 (some .int), Cond.methodLink RX5 77 yX5_bitsOf, Cond.instanceMethod yX5_bitsOf, Cond.selects RX5 yX5_bitsOf yX5_bitsOf, Cond.code yX5_bitsOf cX5_bitsOf 4 (some .int), Cond.methodLink RX5 67 yX5_parityOf, Cond.instanceMethod yX5_parityOf, Cond.selects RX5 yX5_parityOf yX5_parityOf, Cond.code yX5_parityOf cX5_parityOf 3 (some .int), Cond.methodLink RX5 63 yX5_ones, Cond.static yX5_ones, Cond.code yX5_ones cX5_ones 3 (some .int), Cond.methodLink RX5 168 yX5_takeBack, Cond.instanceMethod yX5_takeBack]
def wsX5_perform_r4 : List Cond := [Cond.selects RX5 yX5_takeBack yX5_takeBack, Cond.code yX5_takeBack cX5_takeBack 2 none, Cond.methodLink RX5 171 yX5_goOn, Cond.instanceMethod yX5_goOn, Cond.selects RX5 yX5_goOn yX5_goOn, Cond.code yX5_goOn cX5_goOn 2 none, Cond.methodLink RX5 53 yX5_push, Cond.instanceMethod yX5_push, Cond.selects RX5 yX5_push yX5_push, Cond.code yX5_push cX5_push 2 none, Cond.fieldLink RX5 46 "ThirdVotesModel" "states" "I", Cond.fieldLink RX5 13 "ThirdVotesModel" "history" "[I"]
def wsX5_perform : List Cond := .code yX5_perform cX5_perform 2 (some .int) :: ((wsX5_perform_r1 ++ (wsX5_perform_r2 ++ (wsX5_perform_r3 ++ wsX5_perform_r4))) ++ wsX50)
def wsX5_level : List Cond := .code yX5_level cX5_level 2 (some .int) :: ([.methodLink RX5 106 yX5_levelAt, .instanceMethod yX5_levelAt, .selects RX5 yX5_levelAt yX5_levelAt, .initialized RX5, .code yX5_levelAt cX5_levelAt 2 (some .int), .fieldLink RX5 7 "ThirdVotesModel" "state" "[I"] ++ wsX50)
def wsX5_fall : List Cond := .code yX5_fall cX5_fall 2 (some .int) :: ([.methodLink RX5 135 yX5_fallOf, .instanceMethod yX5_fallOf, .selects RX5 yX5_fallOf yX5_fallOf, .initialized RX5, .code yX5_fallOf cX5_fallOf 4 (some .int), .fieldLink RX5 7 "ThirdVotesModel" "state" "[I", .methodLink RX5 121 yX5_isFall, .instanceMethod yX5_isFall, .selects RX5 yX5_isFall yX5_isFall, .code yX5_isFall cX5_isFall 2 (some .boolean), .methodLink RX5 106 yX5_levelAt, .instanceMethod yX5_levelAt, .selects RX5 yX5_levelAt yX5_levelAt, .code yX5_levelAt cX5_levelAt 2 (some .int)] ++ wsX50)
def wsX5_sent : List Cond := .code yX5_sent cX5_sent 2 (some .int) :: ([.fieldLink RX5 7 "ThirdVotesModel" "state" "[I"] ++ wsX50)
def wsX5_received_r1 : List Cond := [Cond.fieldLink RX5 7 "ThirdVotesModel" "state" "[I", Cond.fieldLink RX5 109 "ThirdVotesModel" "many" "I", Cond.fieldLink RX5 31 "ThirdVotesModel" "kinds" "[I", Cond.fieldLink RX5 34 "ThirdVotesModel" "words" "[I", Cond.fieldLink RX5 37 "ThirdVotesModel" "starts" "[I", Cond.fieldLink RX5 40 "ThirdVotesModel" "doubts" "[I", Cond.fieldLink RX5 43 "ThirdVotesModel" "lasts" "[I", Cond.methodLink RX5 80 yX5_within, Cond.static yX5_within, Cond.initialized RX5, Cond.code yX5_within cX5_within 3 (some .boolean), Cond.methodLink RX5 127 yX5_receive, Cond.instanceMethod yX5_receive, Cond.selects RX5 yX5_receive yX5_receive, Cond.code yX5_receive cX5_receive 3 none, Cond.fieldLink RX5 115 "ThirdVotesModel" "falseStarts" "I", Cond.fieldLink RX5 118 "ThirdVotesModel" "doubtful" "I", Cond.methodLink RX5 121 yX5_isFall, Cond.instanceMethod yX5_isFall, Cond.selects RX5 yX5_isFall yX5_isFall, Cond.code yX5_isFall cX5_isFall 2 (some .boolean), Cond.methodLink RX5 106 yX5_levelAt, Cond.instanceMethod yX5_levelAt, Cond.selects RX5 yX5_levelAt yX5_levelAt]
def wsX5_received_r2 : List Cond := [Cond.code yX5_levelAt cX5_levelAt 2 (some .int), Cond.methodLink RX5 124 yX5_tells, Cond.instanceMethod yX5_tells, Cond.selects RX5 yX5_tells yX5_tells, Cond.code yX5_tells cX5_tells 9 (some .boolean), Cond.methodLink RX5 112 yX5_bit, Cond.instanceMethod yX5_bit, Cond.selects RX5 yX5_bit yX5_bit, Cond.code yX5_bit cX5_bit 7 (some .int), Cond.methodLink RX5 67 yX5_parityOf, Cond.instanceMethod yX5_parityOf, Cond.selects RX5 yX5_parityOf yX5_parityOf, Cond.code yX5_parityOf cX5_parityOf 3 (some .int), Cond.methodLink RX5 63 yX5_ones, Cond.static yX5_ones, Cond.code yX5_ones cX5_ones 3 (some .int)]
def wsX5_received : List Cond := .code yX5_received cX5_received 3 (some .int) :: ((wsX5_received_r1 ++ wsX5_received_r2) ++ wsX50)
def wsX5_falls : List Cond := .code yX5_falls cX5_falls 3 (some .int) :: ([.fieldLink RX5 7 "ThirdVotesModel" "state" "[I", .methodLink RX5 121 yX5_isFall, .instanceMethod yX5_isFall, .selects RX5 yX5_isFall yX5_isFall, .initialized RX5, .code yX5_isFall cX5_isFall 2 (some .boolean), .methodLink RX5 106 yX5_levelAt, .instanceMethod yX5_levelAt, .selects RX5 yX5_levelAt yX5_levelAt, .code yX5_levelAt cX5_levelAt 2 (some .int)] ++ wsX50)
def wsX5_zeros : List Cond := .code yX5_zeros cX5_zeros 3 (some .int) :: ([.fieldLink RX5 7 "ThirdVotesModel" "state" "[I", .methodLink RX5 106 yX5_levelAt, .instanceMethod yX5_levelAt, .selects RX5 yX5_levelAt yX5_levelAt, .initialized RX5, .code yX5_levelAt cX5_levelAt 2 (some .int)] ++ wsX50)
def wsX5_tellsReceived_r1 : List Cond := [Cond.fieldLink RX5 7 "ThirdVotesModel" "state" "[I", Cond.fieldLink RX5 109 "ThirdVotesModel" "many" "I", Cond.fieldLink RX5 115 "ThirdVotesModel" "falseStarts" "I", Cond.fieldLink RX5 118 "ThirdVotesModel" "doubtful" "I", Cond.methodLink RX5 127 yX5_receive, Cond.instanceMethod yX5_receive, Cond.selects RX5 yX5_receive yX5_receive, Cond.initialized RX5, Cond.code yX5_receive cX5_receive 3 none, Cond.fieldLink RX5 43 "ThirdVotesModel" "lasts" "[I", Cond.fieldLink RX5 31 "ThirdVotesModel" "kinds" "[I", Cond.fieldLink RX5 40 "ThirdVotesModel" "doubts" "[I", Cond.methodLink RX5 121 yX5_isFall, Cond.instanceMethod yX5_isFall, Cond.selects RX5 yX5_isFall yX5_isFall, Cond.code yX5_isFall cX5_isFall 2 (some .boolean), Cond.methodLink RX5 106 yX5_levelAt, Cond.instanceMethod yX5_levelAt, Cond.selects RX5 yX5_levelAt yX5_levelAt, Cond.code yX5_levelAt cX5_levelAt 2 (some .int), Cond.methodLink RX5 124 yX5_tells, Cond.instanceMethod yX5_tells, Cond.selects RX5 yX5_tells yX5_tells, Cond.code yX5_tells cX5_tells 9 (some .boolean)]
def wsX5_tellsReceived_r2 : List Cond := [Cond.fieldLink RX5 34 "ThirdVotesModel" "words" "[I", Cond.fieldLink RX5 37 "ThirdVotesModel" "starts" "[I", Cond.methodLink RX5 112 yX5_bit, Cond.instanceMethod yX5_bit, Cond.selects RX5 yX5_bit yX5_bit, Cond.code yX5_bit cX5_bit 7 (some .int), Cond.methodLink RX5 67 yX5_parityOf, Cond.instanceMethod yX5_parityOf, Cond.selects RX5 yX5_parityOf yX5_parityOf, Cond.code yX5_parityOf cX5_parityOf 3 (some .int), Cond.methodLink RX5 63 yX5_ones, Cond.static yX5_ones, Cond.code yX5_ones cX5_ones 3 (some .int), Cond.methodLink RX5 131 yX5_isWell, Cond.instanceMethod yX5_isWell, Cond.selects RX5 yX5_isWell yX5_isWell, Cond.code yX5_isWell cX5_isWell 3 (some .boolean), Cond.methodLink RX5 174 yX5_ofKind, Cond.instanceMethod yX5_ofKind, Cond.selects RX5 yX5_ofKind yX5_ofKind, Cond.code yX5_ofKind cX5_ofKind 4 (some .int)]
def wsX5_tellsReceived : List Cond := .code yX5_tellsReceived cX5_tellsReceived 2 (some .int) :: ((wsX5_tellsReceived_r1 ++ wsX5_tellsReceived_r2) ++ wsX50)
def wsX5_total_r1 : List Cond := [Cond.fieldLink RX5 7 "ThirdVotesModel" "state" "[I", Cond.fieldLink RX5 46 "ThirdVotesModel" "states" "I", Cond.fieldLink RX5 138 "ThirdVotesModel" "length" "I", Cond.methodLink RX5 80 yX5_within, Cond.static yX5_within, Cond.initialized RX5, Cond.code yX5_within cX5_within 3 (some .boolean), Cond.methodLink RX5 177 yX5_tellsReceived, Cond.instanceMethod yX5_tellsReceived, Cond.selects RX5 yX5_tellsReceived yX5_tellsReceived, Cond.code yX5_tellsReceived cX5_tellsReceived 2 (some .int), Cond.fieldLink RX5 109 "ThirdVotesModel" "many" "I", Cond.fieldLink RX5 115 "ThirdVotesModel" "falseStarts" "I", Cond.fieldLink RX5 118 "ThirdVotesModel" "doubtful" "I", Cond.methodLink RX5 127 yX5_receive, Cond.instanceMethod yX5_receive, Cond.selects RX5 yX5_receive yX5_receive, Cond.code yX5_receive cX5_receive 3 none, Cond.fieldLink RX5 43 "ThirdVotesModel" "lasts" "[I", Cond.fieldLink RX5 31 "ThirdVotesModel" "kinds" "[I", Cond.fieldLink RX5 40 "ThirdVotesModel" "doubts" "[I", Cond.methodLink RX5 121 yX5_isFall, Cond.instanceMethod yX5_isFall, Cond.selects RX5 yX5_isFall yX5_isFall]
def wsX5_total_r2 : List Cond := [Cond.code yX5_isFall cX5_isFall 2 (some .boolean), Cond.methodLink RX5 106 yX5_levelAt, Cond.instanceMethod yX5_levelAt, Cond.selects RX5 yX5_levelAt yX5_levelAt, Cond.code yX5_levelAt cX5_levelAt 2 (some .int), Cond.methodLink RX5 124 yX5_tells, Cond.instanceMethod yX5_tells, Cond.selects RX5 yX5_tells yX5_tells, Cond.code yX5_tells cX5_tells 9 (some .boolean), Cond.fieldLink RX5 34 "ThirdVotesModel" "words" "[I", Cond.fieldLink RX5 37 "ThirdVotesModel" "starts" "[I", Cond.methodLink RX5 112 yX5_bit, Cond.instanceMethod yX5_bit, Cond.selects RX5 yX5_bit yX5_bit, Cond.code yX5_bit cX5_bit 7 (some .int), Cond.methodLink RX5 67 yX5_parityOf, Cond.instanceMethod yX5_parityOf, Cond.selects RX5 yX5_parityOf yX5_parityOf, Cond.code yX5_parityOf cX5_parityOf 3 (some .int), Cond.methodLink RX5 63 yX5_ones, Cond.static yX5_ones, Cond.code yX5_ones cX5_ones 3 (some .int), Cond.methodLink RX5 131 yX5_isWell, Cond.instanceMethod yX5_isWell]
def wsX5_total_r3 : List Cond := [Cond.selects RX5 yX5_isWell yX5_isWell, Cond.code yX5_isWell cX5_isWell 3 (some .boolean), Cond.methodLink RX5 174 yX5_ofKind, Cond.instanceMethod yX5_ofKind, Cond.selects RX5 yX5_ofKind yX5_ofKind, Cond.code yX5_ofKind cX5_ofKind 4 (some .int), Cond.methodLink RX5 180 yX5_falls, Cond.instanceMethod yX5_falls, Cond.selects RX5 yX5_falls yX5_falls, Cond.code yX5_falls cX5_falls 3 (some .int), Cond.methodLink RX5 183 yX5_zeros, Cond.instanceMethod yX5_zeros, Cond.selects RX5 yX5_zeros yX5_zeros, Cond.code yX5_zeros cX5_zeros 3 (some .int), Cond.methodLink RX5 103 yX5_learned, Cond.instanceMethod yX5_learned, Cond.selects RX5 yX5_learned yX5_learned, Cond.code yX5_learned cX5_learned 3 (some .int), Cond.methodLink RX5 135 yX5_fallOf, Cond.instanceMethod yX5_fallOf, Cond.selects RX5 yX5_fallOf yX5_fallOf, Cond.code yX5_fallOf cX5_fallOf 4 (some .int)]
def wsX5_total : List Cond := .code yX5_total cX5_total 2 (some .int) :: ((wsX5_total_r1 ++ (wsX5_total_r2 ++ wsX5_total_r3)) ++ wsX50)
def wsX5_ifLength_r1 : List Cond := [Cond.fieldLink RX5 109 "ThirdVotesModel" "many" "I", Cond.fieldLink RX5 118 "ThirdVotesModel" "doubtful" "I", Cond.methodLink RX5 80 yX5_within, Cond.static yX5_within, Cond.initialized RX5, Cond.code yX5_within cX5_within 3 (some .boolean), Cond.methodLink RX5 127 yX5_receive, Cond.instanceMethod yX5_receive, Cond.selects RX5 yX5_receive yX5_receive, Cond.code yX5_receive cX5_receive 3 none, Cond.fieldLink RX5 115 "ThirdVotesModel" "falseStarts" "I", Cond.fieldLink RX5 7 "ThirdVotesModel" "state" "[I", Cond.fieldLink RX5 43 "ThirdVotesModel" "lasts" "[I", Cond.fieldLink RX5 31 "ThirdVotesModel" "kinds" "[I", Cond.fieldLink RX5 40 "ThirdVotesModel" "doubts" "[I", Cond.methodLink RX5 121 yX5_isFall, Cond.instanceMethod yX5_isFall, Cond.selects RX5 yX5_isFall yX5_isFall, Cond.code yX5_isFall cX5_isFall 2 (some .boolean), Cond.methodLink RX5 106 yX5_levelAt, Cond.instanceMethod yX5_levelAt, Cond.selects RX5 yX5_levelAt yX5_levelAt, Cond.code yX5_levelAt cX5_levelAt 2 (some .int), Cond.methodLink RX5 124 yX5_tells]
def wsX5_ifLength_r2 : List Cond := [Cond.instanceMethod yX5_tells, Cond.selects RX5 yX5_tells yX5_tells, Cond.code yX5_tells cX5_tells 9 (some .boolean), Cond.fieldLink RX5 34 "ThirdVotesModel" "words" "[I", Cond.fieldLink RX5 37 "ThirdVotesModel" "starts" "[I", Cond.methodLink RX5 112 yX5_bit, Cond.instanceMethod yX5_bit, Cond.selects RX5 yX5_bit yX5_bit, Cond.code yX5_bit cX5_bit 7 (some .int), Cond.methodLink RX5 67 yX5_parityOf, Cond.instanceMethod yX5_parityOf, Cond.selects RX5 yX5_parityOf yX5_parityOf, Cond.code yX5_parityOf cX5_parityOf 3 (some .int), Cond.methodLink RX5 63 yX5_ones, Cond.static yX5_ones, Cond.code yX5_ones cX5_ones 3 (some .int), Cond.methodLink RX5 174 yX5_ofKind, Cond.instanceMethod yX5_ofKind, Cond.selects RX5 yX5_ofKind yX5_ofKind, Cond.code yX5_ofKind cX5_ofKind 4 (some .int), Cond.methodLink RX5 131 yX5_isWell, Cond.instanceMethod yX5_isWell, Cond.selects RX5 yX5_isWell yX5_isWell, Cond.code yX5_isWell cX5_isWell 3 (some .boolean)]
def wsX5_ifLength : List Cond := .code yX5_ifLength cX5_ifLength 3 (some .int) :: ((wsX5_ifLength_r1 ++ wsX5_ifLength_r2) ++ wsX50)
def wsX5_goodLength_r1 : List Cond := [Cond.methodLink RX5 186 yX5_isWellWith, Cond.instanceMethod yX5_isWellWith, Cond.selects RX5 yX5_isWellWith yX5_isWellWith, Cond.initialized RX5, Cond.code yX5_isWellWith cX5_isWellWith 2 (some .boolean), Cond.methodLink RX5 127 yX5_receive, Cond.instanceMethod yX5_receive, Cond.selects RX5 yX5_receive yX5_receive, Cond.code yX5_receive cX5_receive 3 none, Cond.fieldLink RX5 109 "ThirdVotesModel" "many" "I", Cond.fieldLink RX5 115 "ThirdVotesModel" "falseStarts" "I", Cond.fieldLink RX5 118 "ThirdVotesModel" "doubtful" "I", Cond.fieldLink RX5 7 "ThirdVotesModel" "state" "[I", Cond.fieldLink RX5 43 "ThirdVotesModel" "lasts" "[I", Cond.fieldLink RX5 31 "ThirdVotesModel" "kinds" "[I", Cond.fieldLink RX5 40 "ThirdVotesModel" "doubts" "[I", Cond.methodLink RX5 121 yX5_isFall, Cond.instanceMethod yX5_isFall, Cond.selects RX5 yX5_isFall yX5_isFall, Cond.code yX5_isFall cX5_isFall 2 (some .boolean), Cond.methodLink RX5 106 yX5_levelAt, Cond.instanceMethod yX5_levelAt, Cond.selects RX5 yX5_levelAt yX5_levelAt, Cond.code yX5_levelAt cX5_levelAt 2 (some .int)]
def wsX5_goodLength_r2 : List Cond := [Cond.methodLink RX5 124 yX5_tells, Cond.instanceMethod yX5_tells, Cond.selects RX5 yX5_tells yX5_tells, Cond.code yX5_tells cX5_tells 9 (some .boolean), Cond.fieldLink RX5 34 "ThirdVotesModel" "words" "[I", Cond.fieldLink RX5 37 "ThirdVotesModel" "starts" "[I", Cond.methodLink RX5 112 yX5_bit, Cond.instanceMethod yX5_bit, Cond.selects RX5 yX5_bit yX5_bit, Cond.code yX5_bit cX5_bit 7 (some .int), Cond.methodLink RX5 67 yX5_parityOf, Cond.instanceMethod yX5_parityOf, Cond.selects RX5 yX5_parityOf yX5_parityOf, Cond.code yX5_parityOf cX5_parityOf 3 (some .int), Cond.methodLink RX5 63 yX5_ones, Cond.static yX5_ones, Cond.code yX5_ones cX5_ones 3 (some .int), Cond.methodLink RX5 131 yX5_isWell, Cond.instanceMethod yX5_isWell, Cond.selects RX5 yX5_isWell yX5_isWell, Cond.code yX5_isWell cX5_isWell 3 (some .boolean)]
def wsX5_goodLength : List Cond := .code yX5_goodLength cX5_goodLength 4 (some .int) :: ((wsX5_goodLength_r1 ++ wsX5_goodLength_r2) ++ wsX50)
def wsX5_harm_r1 : List Cond := [Cond.fieldLink RX5 7 "ThirdVotesModel" "state" "[I", Cond.methodLink RX5 80 yX5_within, Cond.static yX5_within, Cond.initialized RX5, Cond.code yX5_within cX5_within 3 (some .boolean), Cond.methodLink RX5 96 yX5_flip, Cond.instanceMethod yX5_flip, Cond.selects RX5 yX5_flip yX5_flip, Cond.code yX5_flip cX5_flip 4 none, Cond.methodLink RX5 186 yX5_isWellWith, Cond.instanceMethod yX5_isWellWith, Cond.selects RX5 yX5_isWellWith yX5_isWellWith, Cond.code yX5_isWellWith cX5_isWellWith 2 (some .boolean), Cond.methodLink RX5 127 yX5_receive, Cond.instanceMethod yX5_receive, Cond.selects RX5 yX5_receive yX5_receive, Cond.code yX5_receive cX5_receive 3 none, Cond.fieldLink RX5 109 "ThirdVotesModel" "many" "I", Cond.fieldLink RX5 115 "ThirdVotesModel" "falseStarts" "I", Cond.fieldLink RX5 118 "ThirdVotesModel" "doubtful" "I", Cond.fieldLink RX5 43 "ThirdVotesModel" "lasts" "[I", Cond.fieldLink RX5 31 "ThirdVotesModel" "kinds" "[I", Cond.fieldLink RX5 40 "ThirdVotesModel" "doubts" "[I", Cond.methodLink RX5 121 yX5_isFall]
def wsX5_harm_r2 : List Cond := [Cond.instanceMethod yX5_isFall, Cond.selects RX5 yX5_isFall yX5_isFall, Cond.code yX5_isFall cX5_isFall 2 (some .boolean), Cond.methodLink RX5 106 yX5_levelAt, Cond.instanceMethod yX5_levelAt, Cond.selects RX5 yX5_levelAt yX5_levelAt, Cond.code yX5_levelAt cX5_levelAt 2 (some .int), Cond.methodLink RX5 124 yX5_tells, Cond.instanceMethod yX5_tells, Cond.selects RX5 yX5_tells yX5_tells, Cond.code yX5_tells cX5_tells 9 (some .boolean), Cond.fieldLink RX5 34 "ThirdVotesModel" "words" "[I", Cond.fieldLink RX5 37 "ThirdVotesModel" "starts" "[I", Cond.methodLink RX5 112 yX5_bit, Cond.instanceMethod yX5_bit, Cond.selects RX5 yX5_bit yX5_bit, Cond.code yX5_bit cX5_bit 7 (some .int), Cond.methodLink RX5 67 yX5_parityOf, Cond.instanceMethod yX5_parityOf, Cond.selects RX5 yX5_parityOf yX5_parityOf, Cond.code yX5_parityOf cX5_parityOf 3 (some .int), Cond.methodLink RX5 63 yX5_ones, Cond.static yX5_ones, Cond.code yX5_ones cX5_ones 3 (some .int)]
def wsX5_harm_r3 : List Cond := [Cond.methodLink RX5 131 yX5_isWell, Cond.instanceMethod yX5_isWell, Cond.selects RX5 yX5_isWell yX5_isWell, Cond.code yX5_isWell cX5_isWell 3 (some .boolean)]
def wsX5_harm : List Cond := .code yX5_harm cX5_harm 4 (some .int) :: ((wsX5_harm_r1 ++ (wsX5_harm_r2 ++ wsX5_harm_r3)) ++ wsX50)
def wsX5_ifSent_r1 : List Cond := [Cond.fieldLink RX5 7 "ThirdVotesModel" "state" "[I", Cond.fieldLink RX5 109 "ThirdVotesModel" "many" "I", Cond.fieldLink RX5 31 "ThirdVotesModel" "kinds" "[I", Cond.fieldLink RX5 34 "ThirdVotesModel" "words" "[I", Cond.methodLink RX5 80 yX5_within, Cond.static yX5_within, Cond.initialized RX5, Cond.code yX5_within cX5_within 3 (some .boolean), Cond.methodLink RX5 50 yX5_putAside, Cond.instanceMethod yX5_putAside, Cond.selects RX5 yX5_putAside yX5_putAside, Cond.code yX5_putAside cX5_putAside 2 none, Cond.fieldLink RX5 19 "ThirdVotesModel" "spare" "[I", Cond.methodLink RX5 84 yX5_putWord, Cond.instanceMethod yX5_putWord, Cond.selects RX5 yX5_putWord yX5_putWord, Cond.code yX5_putWord cX5_putWord 7 (some .boolean), Cond.methodLink RX5 70 yX5_bitMany, Cond.instanceMethod yX5_bitMany, Cond.selects RX5 yX5_bitMany yX5_bitMany, Cond.code yX5_bitMany cX5_bitMany 1 (some .int), Cond.methodLink RX5 74 yX5_lengthOf, Cond.instanceMethod yX5_lengthOf, Cond.selects RX5 yX5_lengthOf yX5_lengthOf]
def wsX5_ifSent_r2 : List Cond := [Cond.code yX5_lengthOf cX5_lengthOf 2 (some .int), Cond.methodLink RX5 77 yX5_bitsOf, Cond.instanceMethod yX5_bitsOf, Cond.selects RX5 yX5_bitsOf yX5_bitsOf, Cond.code yX5_bitsOf cX5_bitsOf 4 (some .int), Cond.methodLink RX5 67 yX5_parityOf, Cond.instanceMethod yX5_parityOf, Cond.selects RX5 yX5_parityOf yX5_parityOf, Cond.code yX5_parityOf cX5_parityOf 3 (some .int), Cond.methodLink RX5 63 yX5_ones, Cond.static yX5_ones, Cond.code yX5_ones cX5_ones 3 (some .int), Cond.methodLink RX5 127 yX5_receive, Cond.instanceMethod yX5_receive, Cond.selects RX5 yX5_receive yX5_receive, Cond.code yX5_receive cX5_receive 3 none, Cond.fieldLink RX5 115 "ThirdVotesModel" "falseStarts" "I", Cond.fieldLink RX5 118 "ThirdVotesModel" "doubtful" "I", Cond.fieldLink RX5 43 "ThirdVotesModel" "lasts" "[I", Cond.fieldLink RX5 40 "ThirdVotesModel" "doubts" "[I", Cond.methodLink RX5 121 yX5_isFall, Cond.instanceMethod yX5_isFall, Cond.selects RX5 yX5_isFall yX5_isFall, Cond.code yX5_isFall cX5_isFall 2 (some .boolean)]
def wsX5_ifSent_r3 : List Cond := [Cond.methodLink RX5 106 yX5_levelAt, Cond.instanceMethod yX5_levelAt, Cond.selects RX5 yX5_levelAt yX5_levelAt, Cond.code yX5_levelAt cX5_levelAt 2 (some .int), Cond.methodLink RX5 124 yX5_tells, Cond.instanceMethod yX5_tells, Cond.selects RX5 yX5_tells yX5_tells, Cond.code yX5_tells cX5_tells 9 (some .boolean), Cond.fieldLink RX5 37 "ThirdVotesModel" "starts" "[I", Cond.methodLink RX5 112 yX5_bit, Cond.instanceMethod yX5_bit, Cond.selects RX5 yX5_bit yX5_bit, Cond.code yX5_bit cX5_bit 7 (some .int), Cond.methodLink RX5 168 yX5_takeBack, Cond.instanceMethod yX5_takeBack, Cond.selects RX5 yX5_takeBack yX5_takeBack, Cond.code yX5_takeBack cX5_takeBack 2 none]
def wsX5_ifSent : List Cond := .code yX5_ifSent cX5_ifSent 4 (some .int) :: ((wsX5_ifSent_r1 ++ (wsX5_ifSent_r2 ++ wsX5_ifSent_r3)) ++ wsX50)
def wsJ9_max_7cf53 : List Cond := .code yJ9_max_7cf53 cJ9_max_7cf53 2 (some .int) :: ([])
def wsL_law_r1 : List Cond := [Cond.classLink RL 7 RX4, Cond.instantiable RX4 5, Cond.initialized RX4, Cond.classLink RL 10 RX5, Cond.instantiable RX5 20, Cond.initialized RX5, Cond.methodLink RL 9 yX4_init, Cond.instanceMethod yX4_init, Cond.code yX4_init cX4_init 1 none, Cond.methodLink RX4 3 objectInit, Cond.instanceMethod objectInit, Cond.code objectInit ⟨#[0xb1]⟩ 1 none, Cond.classLink RX4 9 RX2, Cond.instantiable RX2 5, Cond.initialized RX2, Cond.fieldLink RX4 12 "ThirdVotes" "state" "LThirdVotes$State;", Cond.fieldLink RX4 16 "ThirdVotes" "trial" "LThirdVotes$State;", Cond.classLink RX4 19 RX1, Cond.instantiable RX1 4, Cond.initialized RX1, Cond.fieldLink RX4 22 "ThirdVotes" "receiver" "LThirdVotes$Receiver;", Cond.classLink RX4 26 RX3, Cond.instantiable RX3 4, Cond.initialized RX3]
def wsL_law_r2 : List Cond := [Cond.fieldLink RX4 29 "ThirdVotes" "text" "LThirdVotes$Text;", Cond.classLink RX4 33 RX0, Cond.instantiable RX0 4, Cond.initialized RX0, Cond.fieldLink RX4 36 "ThirdVotes" "history" "LThirdVotes$History;", Cond.methodLink RX4 11 yX2_init, Cond.instanceMethod yX2_init, Cond.code yX2_init cX2_init 1 none, Cond.methodLink RX2 5 objectInit, Cond.arrayClass .long, Cond.fieldLink RX2 11 "ThirdVotes$State" "levels" "[J", Cond.arrayClass .int, Cond.fieldLink RX2 15 "ThirdVotes$State" "words" "[I", Cond.fieldLink RX2 19 "ThirdVotes$State" "settings" "[I", Cond.constantLong RX2 22 (-1), Cond.methodLink RX2 33 arraycopyName, Cond.native arraycopyName, Cond.static arraycopyName, Cond.initialized "java/lang/System", Cond.methodLink RX2 24 yJ7_fill_d0a16, Cond.static yJ7_fill_d0a16, Cond.initialized RJ7, Cond.code yJ7_fill_d0a16 cJ7_fill_d0a16 5 none, Cond.methodLink RX4 21 yX1_init]
def wsL_law_r3 : List Cond := [Cond.instanceMethod yX1_init, Cond.code yX1_init cX1_init 1 none, Cond.methodLink RX1 3 objectInit, Cond.classLink RX1 11 "[[I", Cond.fieldLink RX1 13 "ThirdVotes$Receiver" "notes" "[[I", Cond.methodLink RX4 28 yX3_init, Cond.instanceMethod yX3_init, Cond.code yX3_init cX3_init 1 none, Cond.methodLink RX3 5 objectInit, Cond.arrayClass .char, Cond.fieldLink RX3 11 "ThirdVotes$Text" "characters" "[C", Cond.fieldLink RX3 15 "ThirdVotes$Text" "repeatFrom" "[I", Cond.fieldLink RX3 19 "ThirdVotes$Text" "repeatsLeft" "[I", Cond.methodLink RX4 35 yX0_init, Cond.instanceMethod yX0_init, Cond.code yX0_init cX0_init 2 none, Cond.methodLink RX0 1 objectInit, Cond.classLink RX0 9 RX2, Cond.fieldLink RX0 11 "ThirdVotes$History" "states" "[LThirdVotes$State;", Cond.fieldLink RX0 16 "ThirdVotes$History" "snapshot" "LThirdVotes$State;", Cond.methodLink RX0 15 yX2_init, Cond.methodLink RL 12 yX5_init, Cond.instanceMethod yX5_init, Cond.code yX5_init cX5_init 1 none]
def wsL_law_r4 : List Cond := [Cond.methodLink RX5 1 objectInit, Cond.fieldLink RX5 7 "ThirdVotesModel" "state" "[I", Cond.fieldLink RX5 13 "ThirdVotesModel" "history" "[I", Cond.fieldLink RX5 16 "ThirdVotesModel" "snapshot" "[I", Cond.fieldLink RX5 19 "ThirdVotesModel" "spare" "[I", Cond.fieldLink RX5 22 "ThirdVotesModel" "text" "[I", Cond.fieldLink RX5 25 "ThirdVotesModel" "begins" "[I", Cond.fieldLink RX5 28 "ThirdVotesModel" "times" "[I", Cond.fieldLink RX5 31 "ThirdVotesModel" "kinds" "[I", Cond.fieldLink RX5 34 "ThirdVotesModel" "words" "[I", Cond.fieldLink RX5 37 "ThirdVotesModel" "starts" "[I", Cond.fieldLink RX5 40 "ThirdVotesModel" "doubts" "[I", Cond.fieldLink RX5 43 "ThirdVotesModel" "lasts" "[I", Cond.methodLink RL 13 yX4_send, Cond.instanceMethod yX4_send, Cond.selects RX4 yX4_send yX4_send, Cond.code yX4_send cX4_send 2 (some .int), Cond.methodLink RX4 40 yX4_isWord, Cond.static yX4_isWord, Cond.code yX4_isWord cX4_isWord 1 (some .boolean), Cond.methodLink RX4 44 yX2_ticksOfWord, Cond.instanceMethod yX2_ticksOfWord, Cond.selects RX2 yX2_ticksOfWord yX2_ticksOfWord, Cond.code yX2_ticksOfWord cX2_ticksOfWord 1 (some .int)]
def wsL_law_r5 : List Cond := [Cond.methodLink RX2 46 yX2_bitsOfWord, Cond.instanceMethod yX2_bitsOfWord, Cond.selects RX2 yX2_bitsOfWord yX2_bitsOfWord, Cond.code yX2_bitsOfWord cX2_bitsOfWord 2 (some .int), Cond.methodLink RX4 48 yX2_hasRoom, Cond.instanceMethod yX2_hasRoom, Cond.selects RX2 yX2_hasRoom yX2_hasRoom, Cond.code yX2_hasRoom cX2_hasRoom 2 (some .boolean), Cond.fieldLink RX2 39 "ThirdVotes$State" "end" "I", Cond.methodLink RX4 51 yX0_remember, Cond.instanceMethod yX0_remember, Cond.selects RX0 yX0_remember yX0_remember, Cond.code yX0_remember cX0_remember 2 none, Cond.fieldLink RX0 20 "ThirdVotes$History" "size" "I", Cond.methodLink RX0 28 yX0_dropOldest, Cond.instanceMethod yX0_dropOldest, Cond.selects RX0 yX0_dropOldest yX0_dropOldest, Cond.code yX0_dropOldest cX0_dropOldest 3 none, Cond.methodLink RX0 31 yX2_copyFrom, Cond.instanceMethod yX2_copyFrom, Cond.selects RX2 yX2_copyFrom yX2_copyFrom, Cond.code yX2_copyFrom cX2_copyFrom 2 none, Cond.fieldLink RX2 43 "ThirdVotes$State" "wordCount" "I", Cond.methodLink RX4 55 yX2_addWord]
def wsL_law_r6 : List Cond := [Cond.instanceMethod yX2_addWord, Cond.selects RX2 yX2_addWord yX2_addWord, Cond.code yX2_addWord cX2_addWord 7 (some .boolean), Cond.methodLink RX2 50 yX2_ticksOfWord, Cond.methodLink RX2 53 yX2_hasRoom, Cond.methodLink RX2 57 yX2_bitsOf, Cond.instanceMethod yX2_bitsOf, Cond.selects RX2 yX2_bitsOf yX2_bitsOf, Cond.code yX2_bitsOf cX2_bitsOf 4 (some .int), Cond.static yX4_parityOf, Cond.code yX4_parityOf cX4_parityOf 3 (some .int), Cond.methodLink RX4 175 yJ6_bitCount_0f7a4, Cond.static yJ6_bitCount_0f7a4, Cond.initialized RJ6, Cond.code yJ6_bitCount_0f7a4 cJ6_bitCount_0f7a4 1 (some .int), Cond.constant RJ6 265 (1431655765), Cond.constant RJ6 266 (858993459), Cond.constant RJ6 267 (252645135), Cond.methodLink RX2 61 yX2_putLow, Cond.instanceMethod yX2_putLow, Cond.selects RX2 yX2_putLow yX2_putLow, Cond.code yX2_putLow cX2_putLow 4 none, Cond.methodLink RX2 65 Lib.Math.max.name, Cond.static Lib.Math.max.name]
def wsL_law_r7 : List Cond := [Cond.initialized "java/lang/Math", Cond.code Lib.Math.max.name Lib.Math.max.code 2 (some .int), Cond.methodLink RX4 58 yX2_end, Cond.instanceMethod yX2_end, Cond.selects RX2 yX2_end yX2_end, Cond.code yX2_end cX2_end 1 (some .int), Cond.methodLink RL 17 yX5_send, Cond.instanceMethod yX5_send, Cond.selects RX5 yX5_send yX5_send, Cond.code yX5_send cX5_send 2 (some .int), Cond.methodLink RX5 80 yX5_within, Cond.static yX5_within, Cond.code yX5_within cX5_within 3 (some .boolean), Cond.methodLink RX5 50 yX5_putAside, Cond.instanceMethod yX5_putAside, Cond.selects RX5 yX5_putAside yX5_putAside, Cond.code yX5_putAside cX5_putAside 2 none, Cond.methodLink RX5 84 yX5_putWord, Cond.instanceMethod yX5_putWord, Cond.selects RX5 yX5_putWord yX5_putWord, Cond.code yX5_putWord cX5_putWord 7 (some .boolean), Cond.methodLink RX5 70 yX5_bitMany, Cond.instanceMethod yX5_bitMany, Cond.selects RX5 yX5_bitMany yX5_bitMany]
def wsL_law_r8 : List Cond := [Cond.code yX5_bitMany cX5_bitMany 1 (some .int), Cond.methodLink RX5 74 yX5_lengthOf, Cond.instanceMethod yX5_lengthOf, Cond.selects RX5 yX5_lengthOf yX5_lengthOf, Cond.code yX5_lengthOf cX5_lengthOf 2 (some .int), Cond.methodLink RX5 77 yX5_bitsOf, Cond.instanceMethod yX5_bitsOf, Cond.selects RX5 yX5_bitsOf yX5_bitsOf, Cond.code yX5_bitsOf cX5_bitsOf 4 (some .int), Cond.methodLink RX5 67 yX5_parityOf, Cond.instanceMethod yX5_parityOf, Cond.selects RX5 yX5_parityOf yX5_parityOf, Cond.code yX5_parityOf cX5_parityOf 3 (some .int), Cond.methodLink RX5 63 yX5_ones, Cond.static yX5_ones, Cond.code yX5_ones cX5_ones 3 (some .int), Cond.methodLink RX5 53 yX5_push, Cond.instanceMethod yX5_push, Cond.selects RX5 yX5_push yX5_push, Cond.code yX5_push cX5_push 2 none, Cond.fieldLink RX5 46 "ThirdVotesModel" "states" "I", Cond.methodLink RL 18 yX4_pause, Cond.instanceMethod yX4_pause, Cond.selects RX4 yX4_pause yX4_pause]
def wsL_law_r9 : List Cond := [Cond.code yX4_pause cX4_pause 2 (some .int), Cond.methodLink RX4 61 yX4_sendStretch, Cond.instanceMethod yX4_sendStretch, Cond.selects RX4 yX4_sendStretch yX4_sendStretch, Cond.code yX4_sendStretch cX4_sendStretch 3 (some .int), Cond.methodLink RX4 180 yX2_addStretch, Cond.instanceMethod yX2_addStretch, Cond.selects RX2 yX2_addStretch yX2_addStretch, Cond.code yX2_addStretch cX2_addStretch 3 (some .boolean), Cond.methodLink RL 21 yX5_pause, Cond.instanceMethod yX5_pause, Cond.selects RX5 yX5_pause yX5_pause, Cond.code yX5_pause cX5_pause 2 (some .int), Cond.methodLink RX5 92 yX5_putsLevel, Cond.instanceMethod yX5_putsLevel, Cond.selects RX5 yX5_putsLevel yX5_putsLevel, Cond.code yX5_putsLevel cX5_putsLevel 3 (some .int), Cond.methodLink RX5 88 yX5_putLevel, Cond.instanceMethod yX5_putLevel, Cond.selects RX5 yX5_putLevel yX5_putLevel, Cond.code yX5_putLevel cX5_putLevel 4 (some .boolean), Cond.methodLink RL 22 yX4_sendBreak, Cond.instanceMethod yX4_sendBreak, Cond.selects RX4 yX4_sendBreak yX4_sendBreak]
def wsL_law_r10 : List Cond := [Cond.code yX4_sendBreak cX4_sendBreak 2 (some .int), Cond.methodLink RL 25 yX5_sendBreak, Cond.instanceMethod yX5_sendBreak, Cond.selects RX5 yX5_sendBreak yX5_sendBreak, Cond.code yX5_sendBreak cX5_sendBreak 2 (some .int), Cond.methodLink RL 26 yX4_disturb, Cond.instanceMethod yX4_disturb, Cond.selects RX4 yX4_disturb yX4_disturb, Cond.code yX4_disturb cX4_disturb 3 (some .int), Cond.methodLink RX4 65 yX4_isDisturbance, Cond.static yX4_isDisturbance, Cond.code yX4_isDisturbance cX4_isDisturbance 1 (some .boolean), Cond.methodLink RX4 68 yX2_flip, Cond.instanceMethod yX2_flip, Cond.selects RX2 yX2_flip yX2_flip, Cond.code yX2_flip cX2_flip 5 (some .int), Cond.methodLink RX2 71 yX2_levelAt, Cond.instanceMethod yX2_levelAt, Cond.selects RX2 yX2_levelAt yX2_levelAt, Cond.code yX2_levelAt cX2_levelAt 2 (some .int), Cond.methodLink RL 30 yX5_disturb, Cond.instanceMethod yX5_disturb, Cond.selects RX5 yX5_disturb yX5_disturb, Cond.code yX5_disturb cX5_disturb 5 (some .int)]
def wsL_law_r11 : List Cond := [Cond.methodLink RX5 60 yX5_record, Cond.instanceMethod yX5_record, Cond.selects RX5 yX5_record yX5_record, Cond.code yX5_record cX5_record 1 none, Cond.methodLink RX5 96 yX5_flip, Cond.instanceMethod yX5_flip, Cond.selects RX5 yX5_flip yX5_flip, Cond.code yX5_flip cX5_flip 4 none, Cond.methodLink RL 31 yX4_clear, Cond.instanceMethod yX4_clear, Cond.selects RX4 yX4_clear yX4_clear, Cond.code yX4_clear cX4_clear 2 (some .int), Cond.methodLink RX4 71 yX2_clearWire, Cond.instanceMethod yX2_clearWire, Cond.selects RX2 yX2_clearWire yX2_clearWire, Cond.code yX2_clearWire cX2_clearWire 1 none, Cond.methodLink RL 35 yX5_clear, Cond.instanceMethod yX5_clear, Cond.selects RX5 yX5_clear yX5_clear, Cond.code yX5_clear cX5_clear 3 (some .int), Cond.methodLink RL 36 yX4_set, Cond.instanceMethod yX4_set, Cond.selects RX4 yX4_set yX4_set, Cond.code yX4_set cX4_set 4 (some .int)]
def wsL_law_r12 : List Cond := [Cond.fieldLink RX4 74 "ThirdVotes" "LEAST_VALUES" "[I", Cond.fieldLink RX4 78 "ThirdVotes" "GREATEST_VALUES" "[I", Cond.methodLink RX4 81 yX2_setting, Cond.instanceMethod yX2_setting, Cond.selects RX2 yX2_setting yX2_setting, Cond.code yX2_setting cX2_setting 2 (some .int), Cond.methodLink RX4 85 yX2_change, Cond.instanceMethod yX2_change, Cond.selects RX2 yX2_change yX2_change, Cond.code yX2_change cX2_change 3 none, Cond.methodLink RL 39 yX5_set, Cond.instanceMethod yX5_set, Cond.selects RX5 yX5_set yX5_set, Cond.code yX5_set cX5_set 4 (some .int), Cond.methodLink RX5 100 yX5_isValue, Cond.static yX5_isValue, Cond.code yX5_isValue cX5_isValue 2 (some .boolean), Cond.methodLink RL 40 yX4_learn, Cond.instanceMethod yX4_learn, Cond.selects RX4 yX4_learn yX4_learn, Cond.code yX4_learn cX4_learn 2 (some .int), Cond.methodLink RX4 89 yX2_learnedLength, Cond.instanceMethod yX2_learnedLength, Cond.selects RX2 yX2_learnedLength yX2_learnedLength]
def wsL_law_r13 : List Cond := [Cond.code yX2_learnedLength cX2_learnedLength 4 (some .int), Cond.methodLink RX2 90 yX2_fallOfRank, Cond.instanceMethod yX2_fallOfRank, Cond.selects RX2 yX2_fallOfRank yX2_fallOfRank, Cond.code yX2_fallOfRank cX2_fallOfRank 4 (some .int), Cond.methodLink RX2 87 yX2_nextFall, Cond.instanceMethod yX2_nextFall, Cond.selects RX2 yX2_nextFall yX2_nextFall, Cond.code yX2_nextFall cX2_nextFall 7 (some .int), Cond.methodLink RX2 74 yX2_fallsIn, Cond.instanceMethod yX2_fallsIn, Cond.selects RX2 yX2_fallsIn yX2_fallsIn, Cond.code yX2_fallsIn cX2_fallsIn 4 (some .long), Cond.methodLink RX2 78 yJ13_bitCount_95d88, Cond.static yJ13_bitCount_95d88, Cond.initialized RJ13, Cond.code yJ13_bitCount_95d88 cJ13_bitCount_95d88 2 (some .int), Cond.constantLong RJ13 314 (6148914691236517205), Cond.constantLong RJ13 316 (3689348814741910323), Cond.constantLong RJ13 318 (1085102592571150095), Cond.methodLink RX2 84 yX2_behindRow, Cond.static yX2_behindRow, Cond.code yX2_behindRow cX2_behindRow 1 (some .int), Cond.methodLink RL 43 yX5_learn]
def wsL_law_r14 : List Cond := [Cond.instanceMethod yX5_learn, Cond.selects RX5 yX5_learn yX5_learn, Cond.code yX5_learn cX5_learn 2 (some .int), Cond.methodLink RX5 103 yX5_learned, Cond.instanceMethod yX5_learned, Cond.selects RX5 yX5_learned yX5_learned, Cond.code yX5_learned cX5_learned 3 (some .int), Cond.methodLink RX5 135 yX5_fallOf, Cond.instanceMethod yX5_fallOf, Cond.selects RX5 yX5_fallOf yX5_fallOf, Cond.code yX5_fallOf cX5_fallOf 4 (some .int), Cond.methodLink RX5 121 yX5_isFall, Cond.instanceMethod yX5_isFall, Cond.selects RX5 yX5_isFall yX5_isFall, Cond.code yX5_isFall cX5_isFall 2 (some .boolean), Cond.methodLink RX5 106 yX5_levelAt, Cond.instanceMethod yX5_levelAt, Cond.selects RX5 yX5_levelAt yX5_levelAt, Cond.code yX5_levelAt cX5_levelAt 2 (some .int), Cond.methodLink RL 44 yX4_type, Cond.instanceMethod yX4_type, Cond.selects RX4 yX4_type yX4_type, Cond.code yX4_type cX4_type 2 (some .int), Cond.methodLink RX4 92 yX3_append]
def wsL_law_r15 : List Cond := [Cond.instanceMethod yX3_append, Cond.selects RX3 yX3_append yX3_append, Cond.code yX3_append cX3_append 2 (some .boolean), Cond.fieldLink RX3 22 "ThirdVotes$Text" "length" "I", Cond.methodLink RX4 96 yX3_length, Cond.instanceMethod yX3_length, Cond.selects RX3 yX3_length yX3_length, Cond.code yX3_length cX3_length 1 (some .int), Cond.methodLink RL 48 yX5_type, Cond.instanceMethod yX5_type, Cond.selects RX5 yX5_type yX5_type, Cond.code yX5_type cX5_type 2 (some .int), Cond.fieldLink RX5 138 "ThirdVotesModel" "length" "I", Cond.methodLink RL 49 yX4_clearText, Cond.instanceMethod yX4_clearText, Cond.selects RX4 yX4_clearText yX4_clearText, Cond.code yX4_clearText cX4_clearText 2 (some .int), Cond.methodLink RX4 99 yX3_empty, Cond.instanceMethod yX3_empty, Cond.selects RX3 yX3_empty yX3_empty, Cond.code yX3_empty cX3_empty 1 none, Cond.methodLink RL 52 yX5_clearText, Cond.instanceMethod yX5_clearText, Cond.selects RX5 yX5_clearText yX5_clearText]
def wsL_law_r16 : List Cond := [Cond.code yX5_clearText cX5_clearText 2 (some .int), Cond.methodLink RL 53 yX4_perform, Cond.instanceMethod yX4_perform, Cond.selects RX4 yX4_perform yX4_perform, Cond.code yX4_perform cX4_perform 2 (some .int), Cond.methodLink RX4 102 yX3_fault, Cond.instanceMethod yX3_fault, Cond.selects RX3 yX3_fault yX3_fault, Cond.code yX3_fault cX3_fault 5 (some .int), Cond.methodLink RX3 26 yX3_characterAt, Cond.instanceMethod yX3_characterAt, Cond.selects RX3 yX3_characterAt yX3_characterAt, Cond.code yX3_characterAt cX3_characterAt 2 (some .char), Cond.methodLink RX3 30 yX3_placeBehind, Cond.static yX3_placeBehind, Cond.code yX3_placeBehind cX3_placeBehind 3 (some .int), Cond.methodLink RX3 55 yX3_placeInItem, Cond.static yX3_placeInItem, Cond.code yX3_placeInItem cX3_placeInItem 1 (some .int), Cond.methodLink RX3 69 yX3_isStretch, Cond.static yX3_isStretch, Cond.code yX3_isStretch cX3_isStretch 1 (some .boolean), Cond.methodLink RX3 61 yX3_isBetween, Cond.static yX3_isBetween]
def wsL_law_r17 : List Cond := [Cond.code yX3_isBetween cX3_isBetween 3 (some .boolean), Cond.methodLink RX3 39 yX3_digit, Cond.static yX3_digit, Cond.code yX3_digit cX3_digit 1 (some .int), Cond.methodLink RX3 58 yX3_placeBehindDigit, Cond.static yX3_placeBehindDigit, Cond.code yX3_placeBehindDigit cX3_placeBehindDigit 1 (some .int), Cond.methodLink RX3 65 yX3_placeBehindItem, Cond.static yX3_placeBehindItem, Cond.code yX3_placeBehindItem cX3_placeBehindItem 2 (some .int), Cond.methodLink RX4 105 yX2_copyFrom, Cond.methodLink RX4 108 yX3_sendTo, Cond.instanceMethod yX3_sendTo, Cond.selects RX3 yX3_sendTo yX3_sendTo, Cond.code yX3_sendTo cX3_sendTo 6 (some .boolean), Cond.constant RX3 34 (1000000), Cond.methodLink RX3 35 yX3_isRepeatDue, Cond.instanceMethod yX3_isRepeatDue, Cond.selects RX3 yX3_isRepeatDue yX3_isRepeatDue, Cond.code yX3_isRepeatDue cX3_isRepeatDue 2 (some .boolean), Cond.methodLink RX3 43 yX3_beginRepeat, Cond.instanceMethod yX3_beginRepeat, Cond.selects RX3 yX3_beginRepeat yX3_beginRepeat, Cond.code yX3_beginRepeat cX3_beginRepeat 4 (some .boolean)]
def wsL_law_r18 : List Cond := [Cond.methodLink RX3 47 yX3_sendItem, Cond.instanceMethod yX3_sendItem, Cond.selects RX3 yX3_sendItem yX3_sendItem, Cond.code yX3_sendItem cX3_sendItem 4 (some .boolean), Cond.methodLink RX3 73 yX3_numberAt, Cond.instanceMethod yX3_numberAt, Cond.selects RX3 yX3_numberAt yX3_numberAt, Cond.code yX3_numberAt cX3_numberAt 4 (some .int), Cond.methodLink RX3 76 yX2_addStretch, Cond.methodLink RX3 82 yX2_addWord, Cond.methodLink RX3 51 yX3_widthOfItem, Cond.instanceMethod yX3_widthOfItem, Cond.selects RX3 yX3_widthOfItem yX3_widthOfItem, Cond.code yX3_widthOfItem cX3_widthOfItem 3 (some .int), Cond.methodLink RL 56 yX5_perform, Cond.instanceMethod yX5_perform, Cond.selects RX5 yX5_perform yX5_perform, Cond.code yX5_perform cX5_perform 2 (some .int), Cond.fieldLink RX5 141 "ThirdVotesModel" "at" "I", Cond.fieldLink RX5 153 "ThirdVotesModel" "deep" "I", Cond.methodLink RX5 162 yX5_fault, Cond.instanceMethod yX5_fault, Cond.selects RX5 yX5_fault yX5_fault, Cond.code yX5_fault cX5_fault 1 (some .int)]
def wsL_law_r19 : List Cond := [Cond.methodLink RX5 156 yX5_isRepeat, Cond.instanceMethod yX5_isRepeat, Cond.selects RX5 yX5_isRepeat yX5_isRepeat, Cond.code yX5_isRepeat cX5_isRepeat 1 (some .boolean), Cond.methodLink RX5 144 yX5_codeAt, Cond.instanceMethod yX5_codeAt, Cond.selects RX5 yX5_codeAt yX5_codeAt, Cond.code yX5_codeAt cX5_codeAt 2 (some .int), Cond.methodLink RX5 159 yX5_passesItem, Cond.instanceMethod yX5_passesItem, Cond.selects RX5 yX5_passesItem yX5_passesItem, Cond.code yX5_passesItem cX5_passesItem 2 (some .boolean), Cond.methodLink RX5 147 yX5_readNumber, Cond.instanceMethod yX5_readNumber, Cond.selects RX5 yX5_readNumber yX5_readNumber, Cond.code yX5_readNumber cX5_readNumber 2 (some .int), Cond.methodLink RX5 150 yX5_hex, Cond.static yX5_hex, Cond.code yX5_hex cX5_hex 1 (some .int), Cond.methodLink RX5 165 yX5_sendsItem, Cond.instanceMethod yX5_sendsItem, Cond.selects RX5 yX5_sendsItem yX5_sendsItem, Cond.code yX5_sendsItem cX5_sendsItem 3 (some .boolean), Cond.methodLink RX5 168 yX5_takeBack]
def wsL_law_r20 : List Cond := [Cond.instanceMethod yX5_takeBack, Cond.selects RX5 yX5_takeBack yX5_takeBack, Cond.code yX5_takeBack cX5_takeBack 2 none, Cond.methodLink RX5 171 yX5_goOn, Cond.instanceMethod yX5_goOn, Cond.selects RX5 yX5_goOn yX5_goOn, Cond.code yX5_goOn cX5_goOn 2 none, Cond.methodLink RL 57 yX4_undo, Cond.instanceMethod yX4_undo, Cond.selects RX4 yX4_undo yX4_undo, Cond.code yX4_undo cX4_undo 1 (some .int), Cond.methodLink RX4 112 yX0_takeBack, Cond.instanceMethod yX0_takeBack, Cond.selects RX0 yX0_takeBack yX0_takeBack, Cond.code yX0_takeBack cX0_takeBack 2 (some .boolean), Cond.methodLink RX4 115 yX0_size, Cond.instanceMethod yX0_size, Cond.selects RX0 yX0_size yX0_size, Cond.code yX0_size cX0_size 1 (some .int), Cond.methodLink RL 60 yX5_undo, Cond.instanceMethod yX5_undo, Cond.selects RX5 yX5_undo yX5_undo, Cond.code yX5_undo cX5_undo 2 (some .int), Cond.methodLink RL 61 yX4_keep]
def wsL_law_r21 : List Cond := [Cond.instanceMethod yX4_keep, Cond.selects RX4 yX4_keep yX4_keep, Cond.code yX4_keep cX4_keep 1 (some .int), Cond.methodLink RX4 118 yX0_takeSnapshot, Cond.instanceMethod yX0_takeSnapshot, Cond.selects RX0 yX0_takeSnapshot yX0_takeSnapshot, Cond.code yX0_takeSnapshot cX0_takeSnapshot 2 none, Cond.fieldLink RX0 24 "ThirdVotes$History" "hasSnapshot" "Z", Cond.methodLink RL 64 yX5_keep, Cond.instanceMethod yX5_keep, Cond.selects RX5 yX5_keep yX5_keep, Cond.code yX5_keep cX5_keep 2 (some .int), Cond.fieldLink RX5 56 "ThirdVotesModel" "hasSnapshot" "Z", Cond.methodLink RL 65 yX4_restore, Cond.instanceMethod yX4_restore, Cond.selects RX4 yX4_restore yX4_restore, Cond.code yX4_restore cX4_restore 1 (some .int), Cond.methodLink RX4 121 yX0_hasSnapshot, Cond.instanceMethod yX0_hasSnapshot, Cond.selects RX0 yX0_hasSnapshot yX0_hasSnapshot, Cond.code yX0_hasSnapshot cX0_hasSnapshot 1 (some .boolean), Cond.methodLink RX4 125 yX0_copySnapshotTo, Cond.instanceMethod yX0_copySnapshotTo, Cond.selects RX0 yX0_copySnapshotTo yX0_copySnapshotTo]
def wsL_law_r22 : List Cond := [Cond.code yX0_copySnapshotTo cX0_copySnapshotTo 2 none, Cond.methodLink RL 68 yX5_restore, Cond.instanceMethod yX5_restore, Cond.selects RX5 yX5_restore yX5_restore, Cond.code yX5_restore cX5_restore 2 (some .int), Cond.methodLink RL 69 yX4_level, Cond.instanceMethod yX4_level, Cond.selects RX4 yX4_level yX4_level, Cond.code yX4_level cX4_level 2 (some .int), Cond.methodLink RX4 128 yX2_levelAt, Cond.methodLink RL 72 yX5_level, Cond.instanceMethod yX5_level, Cond.selects RX5 yX5_level yX5_level, Cond.code yX5_level cX5_level 2 (some .int), Cond.methodLink RL 73 yX4_fall, Cond.instanceMethod yX4_fall, Cond.selects RX4 yX4_fall yX4_fall, Cond.code yX4_fall cX4_fall 2 (some .int), Cond.methodLink RX4 131 yX2_fallOfRank, Cond.methodLink RL 76 yX5_fall, Cond.instanceMethod yX5_fall, Cond.selects RX5 yX5_fall yX5_fall, Cond.code yX5_fall cX5_fall 2 (some .int), Cond.methodLink RL 77 yX4_sent]
def wsL_law_r23 : List Cond := [Cond.instanceMethod yX4_sent, Cond.selects RX4 yX4_sent yX4_sent, Cond.code yX4_sent cX4_sent 2 (some .int), Cond.methodLink RX4 134 yX2_wordOfRank, Cond.instanceMethod yX2_wordOfRank, Cond.selects RX2 yX2_wordOfRank yX2_wordOfRank, Cond.code yX2_wordOfRank cX2_wordOfRank 2 (some .int), Cond.methodLink RL 80 yX5_sent, Cond.instanceMethod yX5_sent, Cond.selects RX5 yX5_sent yX5_sent, Cond.code yX5_sent cX5_sent 2 (some .int), Cond.methodLink RL 81 yX4_received, Cond.instanceMethod yX4_received, Cond.selects RX4 yX4_received yX4_received, Cond.code yX4_received cX4_received 3 (some .int), Cond.methodLink RX4 137 yX1_receive, Cond.instanceMethod yX1_receive, Cond.selects RX1 yX1_receive yX1_receive, Cond.code yX1_receive cX1_receive 5 none, Cond.fieldLink RX1 16 "ThirdVotes$Receiver" "count" "I", Cond.fieldLink RX1 20 "ThirdVotes$Receiver" "falseStarts" "I", Cond.methodLink RX1 37 Lib.Math.max.name, Cond.methodLink RX1 23 yX2_nextFall, Cond.methodLink RX1 29 yX2_end]
def wsL_law_r24 : List Cond := [Cond.methodLink RX1 33 yX1_tellFrom, Cond.instanceMethod yX1_tellFrom, Cond.selects RX1 yX1_tellFrom yX1_tellFrom, Cond.code yX1_tellFrom cX1_tellFrom 8 (some .int), Cond.fieldLink RX1 56 "ThirdVotes$Receiver" "doubtfulBits" "I", Cond.methodLink RX1 59 yX1_tellBit, Cond.instanceMethod yX1_tellBit, Cond.selects RX1 yX1_tellBit yX1_tellBit, Cond.code yX1_tellBit cX1_tellBit 6 (some .int), Cond.methodLink RX1 79 yX2_levelAt, Cond.methodLink RX1 62 yX1_thirdLook, Cond.static yX1_thirdLook, Cond.code yX1_thirdLook cX1_thirdLook 2 (some .int), Cond.methodLink RX1 65 yX2_setting, Cond.methodLink RX1 68 yX1_kindOf, Cond.static yX1_kindOf, Cond.code yX1_kindOf cX1_kindOf 3 (some .int), Cond.methodLink RX1 72 yX1_wordIn, Cond.static yX1_wordIn, Cond.code yX1_wordIn cX1_wordIn 1 (some .int), Cond.methodLink RX1 75 yX1_add, Cond.instanceMethod yX1_add, Cond.selects RX1 yX1_add yX1_add, Cond.code yX1_add cX1_add 5 none]
def wsL_law_r25 : List Cond := [Cond.methodLink RX4 141 yX1_note, Cond.instanceMethod yX1_note, Cond.selects RX1 yX1_note yX1_note, Cond.code yX1_note cX1_note 3 (some .int), Cond.methodLink RL 84 yX5_received, Cond.instanceMethod yX5_received, Cond.selects RX5 yX5_received yX5_received, Cond.code yX5_received cX5_received 3 (some .int), Cond.fieldLink RX5 109 "ThirdVotesModel" "many" "I", Cond.methodLink RX5 127 yX5_receive, Cond.instanceMethod yX5_receive, Cond.selects RX5 yX5_receive yX5_receive, Cond.code yX5_receive cX5_receive 3 none, Cond.fieldLink RX5 115 "ThirdVotesModel" "falseStarts" "I", Cond.fieldLink RX5 118 "ThirdVotesModel" "doubtful" "I", Cond.methodLink RX5 124 yX5_tells, Cond.instanceMethod yX5_tells, Cond.selects RX5 yX5_tells yX5_tells, Cond.code yX5_tells cX5_tells 9 (some .boolean), Cond.methodLink RX5 112 yX5_bit, Cond.instanceMethod yX5_bit, Cond.selects RX5 yX5_bit yX5_bit, Cond.code yX5_bit cX5_bit 7 (some .int), Cond.methodLink RL 85 yX4_total]
def wsL_law_r26 : List Cond := [Cond.instanceMethod yX4_total, Cond.selects RX4 yX4_total yX4_total, Cond.code yX4_total cX4_total 2 (some .int), Cond.methodLink RX4 144 yX2_wordCount, Cond.instanceMethod yX2_wordCount, Cond.selects RX2 yX2_wordCount yX2_wordCount, Cond.code yX2_wordCount cX2_wordCount 1 (some .int), Cond.methodLink RX4 147 yX2_countFalls, Cond.instanceMethod yX2_countFalls, Cond.selects RX2 yX2_countFalls yX2_countFalls, Cond.code yX2_countFalls cX2_countFalls 3 (some .int), Cond.methodLink RX4 150 yX2_countLowTicks, Cond.instanceMethod yX2_countLowTicks, Cond.selects RX2 yX2_countLowTicks yX2_countLowTicks, Cond.code yX2_countLowTicks cX2_countLowTicks 3 (some .int), Cond.methodLink RX4 153 yX4_totalReceived, Cond.instanceMethod yX4_totalReceived, Cond.selects RX4 yX4_totalReceived yX4_totalReceived, Cond.code yX4_totalReceived cX4_totalReceived 2 (some .int), Cond.methodLink RX4 156 yX1_count, Cond.instanceMethod yX1_count, Cond.selects RX1 yX1_count yX1_count, Cond.code yX1_count cX1_count 1 (some .int), Cond.methodLink RX4 159 yX1_countKind]
def wsL_law_r27 : List Cond := [Cond.instanceMethod yX1_countKind, Cond.selects RX1 yX1_countKind yX1_countKind, Cond.code yX1_countKind cX1_countKind 4 (some .int), Cond.methodLink RX1 43 yX1_note, Cond.methodLink RX4 184 yX1_falseStarts, Cond.instanceMethod yX1_falseStarts, Cond.selects RX1 yX1_falseStarts yX1_falseStarts, Cond.code yX1_falseStarts cX1_falseStarts 1 (some .int), Cond.methodLink RX4 162 yX1_countDoubtful, Cond.instanceMethod yX1_countDoubtful, Cond.selects RX1 yX1_countDoubtful yX1_countDoubtful, Cond.code yX1_countDoubtful cX1_countDoubtful 3 (some .int), Cond.methodLink RX4 165 yX1_isAllWell, Cond.instanceMethod yX1_isAllWell, Cond.selects RX1 yX1_isAllWell yX1_isAllWell, Cond.code yX1_isAllWell cX1_isAllWell 3 (some .boolean), Cond.methodLink RX1 50 yX2_wordCount, Cond.methodLink RX1 53 yX2_wordOfRank, Cond.methodLink RX1 46 yX1_isGoodWord, Cond.instanceMethod yX1_isGoodWord, Cond.selects RX1 yX1_isGoodWord yX1_isGoodWord, Cond.code yX1_isGoodWord cX1_isGoodWord 3 (some .boolean), Cond.methodLink RL 88 yX5_total, Cond.instanceMethod yX5_total]
def wsL_law_r28 : List Cond := [Cond.selects RX5 yX5_total yX5_total, Cond.code yX5_total cX5_total 2 (some .int), Cond.methodLink RX5 177 yX5_tellsReceived, Cond.instanceMethod yX5_tellsReceived, Cond.selects RX5 yX5_tellsReceived yX5_tellsReceived, Cond.code yX5_tellsReceived cX5_tellsReceived 2 (some .int), Cond.methodLink RX5 131 yX5_isWell, Cond.instanceMethod yX5_isWell, Cond.selects RX5 yX5_isWell yX5_isWell, Cond.code yX5_isWell cX5_isWell 3 (some .boolean), Cond.methodLink RX5 174 yX5_ofKind, Cond.instanceMethod yX5_ofKind, Cond.selects RX5 yX5_ofKind yX5_ofKind, Cond.code yX5_ofKind cX5_ofKind 4 (some .int), Cond.methodLink RX5 180 yX5_falls, Cond.instanceMethod yX5_falls, Cond.selects RX5 yX5_falls yX5_falls, Cond.code yX5_falls cX5_falls 3 (some .int), Cond.methodLink RX5 183 yX5_zeros, Cond.instanceMethod yX5_zeros, Cond.selects RX5 yX5_zeros yX5_zeros, Cond.code yX5_zeros cX5_zeros 3 (some .int), Cond.methodLink RL 89 yX4_ifLength, Cond.instanceMethod yX4_ifLength]
def wsL_law_r29 : List Cond := [Cond.selects RX4 yX4_ifLength yX4_ifLength, Cond.code yX4_ifLength cX4_ifLength 3 (some .int), Cond.methodLink RL 92 yX5_ifLength, Cond.instanceMethod yX5_ifLength, Cond.selects RX5 yX5_ifLength yX5_ifLength, Cond.code yX5_ifLength cX5_ifLength 3 (some .int), Cond.methodLink RL 93 yX4_goodLength, Cond.instanceMethod yX4_goodLength, Cond.selects RX4 yX4_goodLength yX4_goodLength, Cond.code yX4_goodLength cX4_goodLength 4 (some .int), Cond.methodLink RX4 168 yX4_isWellWith, Cond.instanceMethod yX4_isWellWith, Cond.selects RX4 yX4_isWellWith yX4_isWellWith, Cond.code yX4_isWellWith cX4_isWellWith 3 (some .boolean), Cond.methodLink RL 97 yX5_goodLength, Cond.instanceMethod yX5_goodLength, Cond.selects RX5 yX5_goodLength yX5_goodLength, Cond.code yX5_goodLength cX5_goodLength 4 (some .int), Cond.methodLink RX5 186 yX5_isWellWith, Cond.instanceMethod yX5_isWellWith, Cond.selects RX5 yX5_isWellWith yX5_isWellWith, Cond.code yX5_isWellWith cX5_isWellWith 2 (some .boolean), Cond.methodLink RL 98 yX4_harm, Cond.instanceMethod yX4_harm]
def wsL_law_r30 : List Cond := [Cond.selects RX4 yX4_harm yX4_harm, Cond.code yX4_harm cX4_harm 4 (some .int), Cond.methodLink RL 101 yX5_harm, Cond.instanceMethod yX5_harm, Cond.selects RX5 yX5_harm yX5_harm, Cond.code yX5_harm cX5_harm 4 (some .int), Cond.methodLink RL 102 yX4_ifSent, Cond.instanceMethod yX4_ifSent, Cond.selects RX4 yX4_ifSent yX4_ifSent, Cond.code yX4_ifSent cX4_ifSent 2 (some .int), Cond.methodLink RX4 172 yX1_countGoodWord, Cond.instanceMethod yX1_countGoodWord, Cond.selects RX1 yX1_countGoodWord yX1_countGoodWord, Cond.code yX1_countGoodWord cX1_countGoodWord 4 (some .int), Cond.methodLink RL 105 yX5_ifSent, Cond.instanceMethod yX5_ifSent, Cond.selects RX5 yX5_ifSent yX5_ifSent, Cond.code yX5_ifSent cX5_ifSent 4 (some .int)]
def wsL_law : List Cond := (wsL_law_r1 ++ (wsL_law_r2 ++ (wsL_law_r3 ++ (wsL_law_r4 ++ (wsL_law_r5 ++ (wsL_law_r6 ++ (wsL_law_r7 ++ (wsL_law_r8 ++ (wsL_law_r9 ++ (wsL_law_r10 ++ (wsL_law_r11 ++ (wsL_law_r12 ++ (wsL_law_r13 ++ (wsL_law_r14 ++ (wsL_law_r15 ++ (wsL_law_r16 ++ (wsL_law_r17 ++ (wsL_law_r18 ++ (wsL_law_r19 ++ (wsL_law_r20 ++ (wsL_law_r21 ++ (wsL_law_r22 ++ (wsL_law_r23 ++ (wsL_law_r24 ++ (wsL_law_r25 ++ (wsL_law_r26 ++ (wsL_law_r27 ++ (wsL_law_r28 ++ (wsL_law_r29 ++ wsL_law_r30))))))))))))))))))))))))))))) ++ wsX40 ++ wsX50 ++ wsX20 ++ wsX10 ++ wsX30 ++ wsX00 ++ ([] : List Cond)
set_option maxRecDepth 20000 in
theorem wsL_law_in : ∀ w ∈ wsL_law, w ∈ lw_tbl := fun w h => (goodIn_p wsL_law [66, 69, 74, 79, 107, 128, 148, 572, 185, 188, 192, 196, 200, 204, 208, 212, 216, 222, 225, 228, 235, 238, 242, 662, 665, 654, 669, 673, 677, 681, 685, 688, 658, 246, 250, 254, 692, 696, 700, 258, 704, 262, 265, 269, 273, 708, 650, 712, 277, 281, 716, 285, 293, 297, 720, 723, 301, 305, 309, 313, 317, 320, 326, 727, 731, 735, 739, 743, 330, 334, 338, 747, 342, 346, 751, 350, 354, 358, 361, 364, 367, 370, 373, 376, 379, 384, 389, 393, 397, 401, 407, 755, 759, 763, 767, 771, 775, 778, 782, 786, 790, 411, 415, 419, 638, 423, 427, 642, 431, 435, 439, 646, 443, 794, 448, 798, 453, 457, 802, 461, 465, 471, 475, 479, 483, 486, 491, 496, 806, 810, 814, 818, 500, 504, 508, 512, 516, 520, 524, 529, 533, 537, 543, 822, 826, 830, 834, 838, 842, 547, 846, 551, 555, 850, 854, 559, 858, 563, 567, 862] (by decide +kernel) (by decide +kernel) w h).1
theorem inlX0 : ∀ w ∈ wsX00, w ∈ wsL_law := fun _ h => List.mem_append_left _ (List.mem_append_right _ h)
theorem inX0 : ∀ w ∈ wsX00, w ∈ lw_tbl := fun w h => wsL_law_in w (inlX0 w h)
theorem inlX1 : ∀ w ∈ wsX10, w ∈ wsL_law := fun _ h => List.mem_append_left _ (List.mem_append_left _ (List.mem_append_left _ (List.mem_append_right _ h)))
theorem inX1 : ∀ w ∈ wsX10, w ∈ lw_tbl := fun w h => wsL_law_in w (inlX1 w h)
theorem inlX2 : ∀ w ∈ wsX20, w ∈ wsL_law := fun _ h => List.mem_append_left _ (List.mem_append_left _ (List.mem_append_left _ (List.mem_append_left _ (List.mem_append_right _ h))))
theorem inX2 : ∀ w ∈ wsX20, w ∈ lw_tbl := fun w h => wsL_law_in w (inlX2 w h)
theorem inlX3 : ∀ w ∈ wsX30, w ∈ wsL_law := fun _ h => List.mem_append_left _ (List.mem_append_left _ (List.mem_append_right _ h))
theorem inX3 : ∀ w ∈ wsX30, w ∈ lw_tbl := fun w h => wsL_law_in w (inlX3 w h)
theorem inlX4 : ∀ w ∈ wsX40, w ∈ wsL_law := fun _ h => List.mem_append_left _ (List.mem_append_left _ (List.mem_append_left _ (List.mem_append_left _ (List.mem_append_left _ (List.mem_append_left _ (List.mem_append_right _ h))))))
theorem inX4 : ∀ w ∈ wsX40, w ∈ lw_tbl := fun w h => wsL_law_in w (inlX4 w h)
theorem inlX5 : ∀ w ∈ wsX50, w ∈ wsL_law := fun _ h => List.mem_append_left _ (List.mem_append_left _ (List.mem_append_left _ (List.mem_append_left _ (List.mem_append_left _ (List.mem_append_right _ h)))))
theorem inX5 : ∀ w ∈ wsX50, w ∈ lw_tbl := fun w h => wsL_law_in w (inlX5 w h)
theorem inJ6 : ∀ w ∈ wsJ60, w ∈ lw_tbl := by decide +kernel
theorem inJ13 : ∀ w ∈ wsJ130, w ∈ lw_tbl := by decide +kernel
theorem inJ9 : ∀ w ∈ wsJ90, w ∈ lw_tbl := by decide +kernel
theorem inJ10 : ∀ w ∈ wsJ100, w ∈ lw_tbl := by decide +kernel
theorem inJ7 : ∀ w ∈ wsJ70, w ∈ lw_tbl := by decide +kernel
set_option maxRecDepth 20000 in
theorem ggX0_init_X2_init : GoodIn wsX0_init wsX2_init := goodIn_r _ [11, 12, 2, 3, 13, 14, 15, 16, 17, 18, 19, 20, 21, 22, 23, 24, 25, 26, 31, 32, 33, 34, 35] (by decide +kernel) (by decide +kernel)
set_option maxRecDepth 20000 in
theorem gX0_init_X2_init : GoodIn wsX0_init (wsX2_init) := ggX0_init_X2_init
theorem dX0_init_0 : decode cX0_init 0 = .ok (.aload_n 0, 1) := by decide +kernel
theorem dX0_init_1 : decode cX0_init 1 = .ok (.invokespecial 1, 3) := by decide +kernel
theorem dX0_init_4 : decode cX0_init 4 = .ok (.aload_n 0, 1) := by decide +kernel
theorem dX0_init_5 : decode cX0_init 5 = .ok (.iconst 4, 1) := by decide +kernel
theorem dX0_init_6 : decode cX0_init 6 = .ok (.anewarray 9, 3) := by decide +kernel
theorem dX0_init_9 : decode cX0_init 9 = .ok (.putfield 11, 3) := by decide +kernel
theorem dX0_init_12 : decode cX0_init 12 = .ok (.iconst 0, 1) := by decide +kernel
theorem dX0_init_13 : decode cX0_init 13 = .ok (.istore_n 1, 1) := by decide +kernel
theorem dX0_init_14 : decode cX0_init 14 = .ok (.iload_n 1, 1) := by decide +kernel
theorem dX0_init_15 : decode cX0_init 15 = .ok (.iconst 4, 1) := by decide +kernel
theorem dX0_init_16 : decode cX0_init 16 = .ok (.if_icmp .ge 22, 3) := by decide +kernel
theorem dX0_init_19 : decode cX0_init 19 = .ok (.aload_n 0, 1) := by decide +kernel
theorem dX0_init_20 : decode cX0_init 20 = .ok (.getfield 11, 3) := by decide +kernel
theorem dX0_init_23 : decode cX0_init 23 = .ok (.iload_n 1, 1) := by decide +kernel
theorem dX0_init_24 : decode cX0_init 24 = .ok (.new 9, 3) := by decide +kernel
theorem dX0_init_27 : decode cX0_init 27 = .ok (.dup, 1) := by decide +kernel
theorem dX0_init_28 : decode cX0_init 28 = .ok (.invokespecial 15, 3) := by decide +kernel
theorem dX0_init_31 : decode cX0_init 31 = .ok (.aastore, 1) := by decide +kernel
theorem dX0_init_32 : decode cX0_init 32 = .ok (.iinc 1 1, 3) := by decide +kernel
theorem dX0_init_35 : decode cX0_init 35 = .ok (.goto (-21), 3) := by decide +kernel
theorem dX0_init_38 : decode cX0_init 38 = .ok (.aload_n 0, 1) := by decide +kernel
theorem dX0_init_39 : decode cX0_init 39 = .ok (.new 9, 3) := by decide +kernel
theorem dX0_init_42 : decode cX0_init 42 = .ok (.dup, 1) := by decide +kernel
theorem dX0_init_43 : decode cX0_init 43 = .ok (.invokespecial 15, 3) := by decide +kernel
theorem dX0_init_46 : decode cX0_init 46 = .ok (.putfield 16, 3) := by decide +kernel
theorem dX0_init_49 : decode cX0_init 49 = .ok (.return_, 1) := by decide +kernel
theorem dX0_size_0 : decode cX0_size 0 = .ok (.aload_n 0, 1) := by decide +kernel
theorem dX0_size_1 : decode cX0_size 1 = .ok (.getfield 20, 3) := by decide +kernel
theorem dX0_size_4 : decode cX0_size 4 = .ok (.ireturn, 1) := by decide +kernel
theorem dX0_hasSnapshot_0 : decode cX0_hasSnapshot 0 = .ok (.aload_n 0, 1) := by decide +kernel
theorem dX0_hasSnapshot_1 : decode cX0_hasSnapshot 1 = .ok (.getfield 24, 3) := by decide +kernel
theorem dX0_hasSnapshot_4 : decode cX0_hasSnapshot 4 = .ok (.ireturn, 1) := by decide +kernel
set_option maxRecDepth 20000 in
theorem ggX0_remember_X0_dropOldest : GoodIn wsX0_remember wsX0_dropOldest := goodIn_r _ [7, 2, 1, 22, 23, 24, 25] (by decide +kernel) (by decide +kernel)
set_option maxRecDepth 20000 in
theorem gX0_remember_X0_dropOldest : GoodIn wsX0_remember (wsV RX0 28 RX0 yX0_dropOldest wsX0_dropOldest) := goodIn_app (goodIn_of _ (by decide +kernel)) ggX0_remember_X0_dropOldest
set_option maxRecDepth 20000 in
theorem ggX0_remember_X2_copyFrom : GoodIn wsX0_remember wsX2_copyFrom := goodIn_r _ [12, 13, 14, 15, 16, 17, 18, 19, 20, 21, 26, 27, 28, 29, 30] (by decide +kernel) (by decide +kernel)
set_option maxRecDepth 20000 in
theorem gX0_remember_X2_copyFrom : GoodIn wsX0_remember (wsV RX0 31 RX2 yX2_copyFrom wsX2_copyFrom) := goodIn_app (goodIn_of _ (by decide +kernel)) ggX0_remember_X2_copyFrom
theorem dX0_remember_0 : decode cX0_remember 0 = .ok (.aload_n 0, 1) := by decide +kernel
theorem dX0_remember_1 : decode cX0_remember 1 = .ok (.getfield 20, 3) := by decide +kernel
theorem dX0_remember_4 : decode cX0_remember 4 = .ok (.iconst 4, 1) := by decide +kernel
theorem dX0_remember_5 : decode cX0_remember 5 = .ok (.if_icmp .ne 7, 3) := by decide +kernel
theorem dX0_remember_8 : decode cX0_remember 8 = .ok (.aload_n 0, 1) := by decide +kernel
theorem dX0_remember_9 : decode cX0_remember 9 = .ok (.invokevirtual 28, 3) := by decide +kernel
theorem dX0_remember_12 : decode cX0_remember 12 = .ok (.aload_n 0, 1) := by decide +kernel
theorem dX0_remember_13 : decode cX0_remember 13 = .ok (.getfield 11, 3) := by decide +kernel
theorem dX0_remember_16 : decode cX0_remember 16 = .ok (.aload_n 0, 1) := by decide +kernel
theorem dX0_remember_17 : decode cX0_remember 17 = .ok (.getfield 20, 3) := by decide +kernel
theorem dX0_remember_20 : decode cX0_remember 20 = .ok (.aaload, 1) := by decide +kernel
theorem dX0_remember_21 : decode cX0_remember 21 = .ok (.aload_n 1, 1) := by decide +kernel
theorem dX0_remember_22 : decode cX0_remember 22 = .ok (.invokevirtual 31, 3) := by decide +kernel
theorem dX0_remember_25 : decode cX0_remember 25 = .ok (.aload_n 0, 1) := by decide +kernel
theorem dX0_remember_26 : decode cX0_remember 26 = .ok (.dup, 1) := by decide +kernel
theorem dX0_remember_27 : decode cX0_remember 27 = .ok (.getfield 20, 3) := by decide +kernel
theorem dX0_remember_30 : decode cX0_remember 30 = .ok (.iconst 1, 1) := by decide +kernel
theorem dX0_remember_31 : decode cX0_remember 31 = .ok (.iadd, 1) := by decide +kernel
theorem dX0_remember_32 : decode cX0_remember 32 = .ok (.putfield 20, 3) := by decide +kernel
theorem dX0_remember_35 : decode cX0_remember 35 = .ok (.return_, 1) := by decide +kernel
set_option maxRecDepth 20000 in
theorem ggX0_takeBack_X2_copyFrom : GoodIn wsX0_takeBack wsX2_copyFrom := goodIn_r _ [7, 8, 9, 10, 11, 12, 13, 14, 15, 16, 21, 22, 23, 24, 25] (by decide +kernel) (by decide +kernel)
set_option maxRecDepth 20000 in
theorem gX0_takeBack_X2_copyFrom : GoodIn wsX0_takeBack (wsV RX0 31 RX2 yX2_copyFrom wsX2_copyFrom) := goodIn_app (goodIn_of _ (by decide +kernel)) ggX0_takeBack_X2_copyFrom
theorem dX0_takeBack_0 : decode cX0_takeBack 0 = .ok (.aload_n 0, 1) := by decide +kernel
theorem dX0_takeBack_1 : decode cX0_takeBack 1 = .ok (.getfield 20, 3) := by decide +kernel
theorem dX0_takeBack_4 : decode cX0_takeBack 4 = .ok (.iconst 1, 1) := by decide +kernel
theorem dX0_takeBack_5 : decode cX0_takeBack 5 = .ok (.if_icmp .ge 5, 3) := by decide +kernel
theorem dX0_takeBack_8 : decode cX0_takeBack 8 = .ok (.iconst 0, 1) := by decide +kernel
theorem dX0_takeBack_9 : decode cX0_takeBack 9 = .ok (.ireturn, 1) := by decide +kernel
theorem dX0_takeBack_10 : decode cX0_takeBack 10 = .ok (.aload_n 0, 1) := by decide +kernel
theorem dX0_takeBack_11 : decode cX0_takeBack 11 = .ok (.dup, 1) := by decide +kernel
theorem dX0_takeBack_12 : decode cX0_takeBack 12 = .ok (.getfield 20, 3) := by decide +kernel
theorem dX0_takeBack_15 : decode cX0_takeBack 15 = .ok (.iconst 1, 1) := by decide +kernel
theorem dX0_takeBack_16 : decode cX0_takeBack 16 = .ok (.isub, 1) := by decide +kernel
theorem dX0_takeBack_17 : decode cX0_takeBack 17 = .ok (.putfield 20, 3) := by decide +kernel
theorem dX0_takeBack_20 : decode cX0_takeBack 20 = .ok (.aload_n 1, 1) := by decide +kernel
theorem dX0_takeBack_21 : decode cX0_takeBack 21 = .ok (.aload_n 0, 1) := by decide +kernel
theorem dX0_takeBack_22 : decode cX0_takeBack 22 = .ok (.getfield 11, 3) := by decide +kernel
theorem dX0_takeBack_25 : decode cX0_takeBack 25 = .ok (.aload_n 0, 1) := by decide +kernel
theorem dX0_takeBack_26 : decode cX0_takeBack 26 = .ok (.getfield 20, 3) := by decide +kernel
theorem dX0_takeBack_29 : decode cX0_takeBack 29 = .ok (.aaload, 1) := by decide +kernel
theorem dX0_takeBack_30 : decode cX0_takeBack 30 = .ok (.invokevirtual 31, 3) := by decide +kernel
theorem dX0_takeBack_33 : decode cX0_takeBack 33 = .ok (.iconst 1, 1) := by decide +kernel
theorem dX0_takeBack_34 : decode cX0_takeBack 34 = .ok (.ireturn, 1) := by decide +kernel
set_option maxRecDepth 20000 in
theorem ggX0_takeSnapshot_X2_copyFrom : GoodIn wsX0_takeSnapshot wsX2_copyFrom := goodIn_r _ [7, 8, 9, 10, 11, 12, 13, 14, 15, 16, 21, 22, 23, 24, 25] (by decide +kernel) (by decide +kernel)
set_option maxRecDepth 20000 in
theorem gX0_takeSnapshot_X2_copyFrom : GoodIn wsX0_takeSnapshot (wsV RX0 31 RX2 yX2_copyFrom wsX2_copyFrom) := goodIn_app (goodIn_of _ (by decide +kernel)) ggX0_takeSnapshot_X2_copyFrom
theorem dX0_takeSnapshot_0 : decode cX0_takeSnapshot 0 = .ok (.aload_n 0, 1) := by decide +kernel
theorem dX0_takeSnapshot_1 : decode cX0_takeSnapshot 1 = .ok (.getfield 16, 3) := by decide +kernel
theorem dX0_takeSnapshot_4 : decode cX0_takeSnapshot 4 = .ok (.aload_n 1, 1) := by decide +kernel
theorem dX0_takeSnapshot_5 : decode cX0_takeSnapshot 5 = .ok (.invokevirtual 31, 3) := by decide +kernel
theorem dX0_takeSnapshot_8 : decode cX0_takeSnapshot 8 = .ok (.aload_n 0, 1) := by decide +kernel
theorem dX0_takeSnapshot_9 : decode cX0_takeSnapshot 9 = .ok (.iconst 1, 1) := by decide +kernel
theorem dX0_takeSnapshot_10 : decode cX0_takeSnapshot 10 = .ok (.putfield 24, 3) := by decide +kernel
theorem dX0_takeSnapshot_13 : decode cX0_takeSnapshot 13 = .ok (.return_, 1) := by decide +kernel
set_option maxRecDepth 20000 in
theorem ggX0_copySnapshotTo_X2_copyFrom : GoodIn wsX0_copySnapshotTo wsX2_copyFrom := goodIn_r _ [6, 7, 8, 9, 10, 11, 12, 13, 14, 15, 20, 21, 22, 23, 24] (by decide +kernel) (by decide +kernel)
set_option maxRecDepth 20000 in
theorem gX0_copySnapshotTo_X2_copyFrom : GoodIn wsX0_copySnapshotTo (wsV RX0 31 RX2 yX2_copyFrom wsX2_copyFrom) := goodIn_app (goodIn_of _ (by decide +kernel)) ggX0_copySnapshotTo_X2_copyFrom
theorem dX0_copySnapshotTo_0 : decode cX0_copySnapshotTo 0 = .ok (.aload_n 1, 1) := by decide +kernel
theorem dX0_copySnapshotTo_1 : decode cX0_copySnapshotTo 1 = .ok (.aload_n 0, 1) := by decide +kernel
theorem dX0_copySnapshotTo_2 : decode cX0_copySnapshotTo 2 = .ok (.getfield 16, 3) := by decide +kernel
theorem dX0_copySnapshotTo_5 : decode cX0_copySnapshotTo 5 = .ok (.invokevirtual 31, 3) := by decide +kernel
theorem dX0_copySnapshotTo_8 : decode cX0_copySnapshotTo 8 = .ok (.return_, 1) := by decide +kernel
theorem dX0_dropOldest_0 : decode cX0_dropOldest 0 = .ok (.aload_n 0, 1) := by decide +kernel
theorem dX0_dropOldest_1 : decode cX0_dropOldest 1 = .ok (.getfield 11, 3) := by decide +kernel
theorem dX0_dropOldest_4 : decode cX0_dropOldest 4 = .ok (.iconst 0, 1) := by decide +kernel
theorem dX0_dropOldest_5 : decode cX0_dropOldest 5 = .ok (.aaload, 1) := by decide +kernel
theorem dX0_dropOldest_6 : decode cX0_dropOldest 6 = .ok (.astore_n 1, 1) := by decide +kernel
theorem dX0_dropOldest_7 : decode cX0_dropOldest 7 = .ok (.iconst 1, 1) := by decide +kernel
theorem dX0_dropOldest_8 : decode cX0_dropOldest 8 = .ok (.istore_n 2, 1) := by decide +kernel
theorem dX0_dropOldest_9 : decode cX0_dropOldest 9 = .ok (.iload_n 2, 1) := by decide +kernel
theorem dX0_dropOldest_10 : decode cX0_dropOldest 10 = .ok (.iconst 4, 1) := by decide +kernel
theorem dX0_dropOldest_11 : decode cX0_dropOldest 11 = .ok (.if_icmp .ge 23, 3) := by decide +kernel
theorem dX0_dropOldest_14 : decode cX0_dropOldest 14 = .ok (.aload_n 0, 1) := by decide +kernel
theorem dX0_dropOldest_15 : decode cX0_dropOldest 15 = .ok (.getfield 11, 3) := by decide +kernel
theorem dX0_dropOldest_18 : decode cX0_dropOldest 18 = .ok (.iload_n 2, 1) := by decide +kernel
theorem dX0_dropOldest_19 : decode cX0_dropOldest 19 = .ok (.iconst 1, 1) := by decide +kernel
theorem dX0_dropOldest_20 : decode cX0_dropOldest 20 = .ok (.isub, 1) := by decide +kernel
theorem dX0_dropOldest_21 : decode cX0_dropOldest 21 = .ok (.aload_n 0, 1) := by decide +kernel
theorem dX0_dropOldest_22 : decode cX0_dropOldest 22 = .ok (.getfield 11, 3) := by decide +kernel
theorem dX0_dropOldest_25 : decode cX0_dropOldest 25 = .ok (.iload_n 2, 1) := by decide +kernel
theorem dX0_dropOldest_26 : decode cX0_dropOldest 26 = .ok (.aaload, 1) := by decide +kernel
theorem dX0_dropOldest_27 : decode cX0_dropOldest 27 = .ok (.aastore, 1) := by decide +kernel
theorem dX0_dropOldest_28 : decode cX0_dropOldest 28 = .ok (.iinc 2 1, 3) := by decide +kernel
theorem dX0_dropOldest_31 : decode cX0_dropOldest 31 = .ok (.goto (-22), 3) := by decide +kernel
theorem dX0_dropOldest_34 : decode cX0_dropOldest 34 = .ok (.aload_n 0, 1) := by decide +kernel
theorem dX0_dropOldest_35 : decode cX0_dropOldest 35 = .ok (.getfield 11, 3) := by decide +kernel
theorem dX0_dropOldest_38 : decode cX0_dropOldest 38 = .ok (.iconst 3, 1) := by decide +kernel
theorem dX0_dropOldest_39 : decode cX0_dropOldest 39 = .ok (.aload_n 1, 1) := by decide +kernel
theorem dX0_dropOldest_40 : decode cX0_dropOldest 40 = .ok (.aastore, 1) := by decide +kernel
theorem dX0_dropOldest_41 : decode cX0_dropOldest 41 = .ok (.aload_n 0, 1) := by decide +kernel
theorem dX0_dropOldest_42 : decode cX0_dropOldest 42 = .ok (.dup, 1) := by decide +kernel
theorem dX0_dropOldest_43 : decode cX0_dropOldest 43 = .ok (.getfield 20, 3) := by decide +kernel
theorem dX0_dropOldest_46 : decode cX0_dropOldest 46 = .ok (.iconst 1, 1) := by decide +kernel
theorem dX0_dropOldest_47 : decode cX0_dropOldest 47 = .ok (.isub, 1) := by decide +kernel
theorem dX0_dropOldest_48 : decode cX0_dropOldest 48 = .ok (.putfield 20, 3) := by decide +kernel
theorem dX0_dropOldest_51 : decode cX0_dropOldest 51 = .ok (.return_, 1) := by decide +kernel
theorem dX1_init_0 : decode cX1_init 0 = .ok (.aload_n 0, 1) := by decide +kernel
theorem dX1_init_1 : decode cX1_init 1 = .ok (.invokespecial 3, 3) := by decide +kernel
theorem dX1_init_4 : decode cX1_init 4 = .ok (.aload_n 0, 1) := by decide +kernel
theorem dX1_init_5 : decode cX1_init 5 = .ok (.iconst 5, 1) := by decide +kernel
theorem dX1_init_6 : decode cX1_init 6 = .ok (.bipush 39, 2) := by decide +kernel
theorem dX1_init_8 : decode cX1_init 8 = .ok (.multianewarray 11 2, 4) := by decide +kernel
theorem dX1_init_12 : decode cX1_init 12 = .ok (.putfield 13, 3) := by decide +kernel
theorem dX1_init_15 : decode cX1_init 15 = .ok (.return_, 1) := by decide +kernel
set_option maxRecDepth 20000 in
theorem ggX1_receive_X2_nextFall : GoodIn wsX1_receive wsX2_nextFall := goodIn_r _ [11, 12, 4, 5, 6, 13, 14, 15, 16, 10, 17, 18, 19, 20, 21, 22, 23, 24, 25, 26, 27, 28, 29, 81, 82, 83, 84, 85] (by decide +kernel) (by decide +kernel)
set_option maxRecDepth 20000 in
theorem gX1_receive_X2_nextFall : GoodIn wsX1_receive (wsV RX1 23 RX2 yX2_nextFall wsX2_nextFall) := goodIn_app (goodIn_of _ (by decide +kernel)) ggX1_receive_X2_nextFall
set_option maxRecDepth 20000 in
theorem ggX1_receive_X2_end : GoodIn wsX1_receive wsX2_end := goodIn_r _ [33, 13, 81, 82, 83, 84, 85] (by decide +kernel) (by decide +kernel)
set_option maxRecDepth 20000 in
theorem gX1_receive_X2_end : GoodIn wsX1_receive (wsV RX1 29 RX2 yX2_end wsX2_end) := goodIn_app (goodIn_of _ (by decide +kernel)) ggX1_receive_X2_end
set_option maxRecDepth 20000 in
theorem ggX1_receive_X1_tellFrom : GoodIn wsX1_receive wsX1_tellFrom := goodIn_r _ [38, 39, 2, 40, 41, 42, 37, 43, 44, 45, 46, 10, 47, 13, 18, 48, 49, 50, 51, 52, 53, 54, 55, 56, 57, 58, 59, 60, 61, 62, 63, 64, 65, 66, 67, 68, 69, 70, 71, 72, 73, 74, 75, 1, 76, 77, 78, 79, 80, 81, 82, 83, 84, 85] (by decide +kernel) (by decide +kernel)
set_option maxRecDepth 20000 in
theorem gX1_receive_X1_tellFrom : GoodIn wsX1_receive (wsV RX1 33 RX1 yX1_tellFrom wsX1_tellFrom) := goodIn_app (goodIn_of _ (by decide +kernel)) ggX1_receive_X1_tellFrom
theorem dX1_receive_0 : decode cX1_receive 0 = .ok (.aload_n 0, 1) := by decide +kernel
theorem dX1_receive_1 : decode cX1_receive 1 = .ok (.iconst 0, 1) := by decide +kernel
theorem dX1_receive_2 : decode cX1_receive 2 = .ok (.putfield 16, 3) := by decide +kernel
theorem dX1_receive_5 : decode cX1_receive 5 = .ok (.aload_n 0, 1) := by decide +kernel
theorem dX1_receive_6 : decode cX1_receive 6 = .ok (.iconst 0, 1) := by decide +kernel
theorem dX1_receive_7 : decode cX1_receive 7 = .ok (.putfield 20, 3) := by decide +kernel
theorem dX1_receive_10 : decode cX1_receive 10 = .ok (.aload_n 1, 1) := by decide +kernel
theorem dX1_receive_11 : decode cX1_receive 11 = .ok (.iconst 0, 1) := by decide +kernel
theorem dX1_receive_12 : decode cX1_receive 12 = .ok (.invokevirtual 23, 3) := by decide +kernel
theorem dX1_receive_15 : decode cX1_receive 15 = .ok (.istore_n 3, 1) := by decide +kernel
theorem dX1_receive_16 : decode cX1_receive 16 = .ok (.iload_n 3, 1) := by decide +kernel
theorem dX1_receive_17 : decode cX1_receive 17 = .ok (.aload_n 1, 1) := by decide +kernel
theorem dX1_receive_18 : decode cX1_receive 18 = .ok (.invokevirtual 29, 3) := by decide +kernel
theorem dX1_receive_21 : decode cX1_receive 21 = .ok (.if_icmp .ge 28, 3) := by decide +kernel
theorem dX1_receive_24 : decode cX1_receive 24 = .ok (.aload_n 0, 1) := by decide +kernel
theorem dX1_receive_25 : decode cX1_receive 25 = .ok (.aload_n 1, 1) := by decide +kernel
theorem dX1_receive_26 : decode cX1_receive 26 = .ok (.iload_n 3, 1) := by decide +kernel
theorem dX1_receive_27 : decode cX1_receive 27 = .ok (.iload_n 2, 1) := by decide +kernel
theorem dX1_receive_28 : decode cX1_receive 28 = .ok (.invokevirtual 33, 3) := by decide +kernel
theorem dX1_receive_31 : decode cX1_receive 31 = .ok (.istore 4, 2) := by decide +kernel
theorem dX1_receive_33 : decode cX1_receive 33 = .ok (.aload_n 1, 1) := by decide +kernel
theorem dX1_receive_34 : decode cX1_receive 34 = .ok (.iload 4, 2) := by decide +kernel
theorem dX1_receive_36 : decode cX1_receive 36 = .ok (.iload_n 3, 1) := by decide +kernel
theorem dX1_receive_37 : decode cX1_receive 37 = .ok (.iconst 1, 1) := by decide +kernel
theorem dX1_receive_38 : decode cX1_receive 38 = .ok (.iadd, 1) := by decide +kernel
theorem dX1_receive_39 : decode cX1_receive 39 = .ok (.invokestatic 37, 3) := by decide +kernel
theorem dX1_receive_42 : decode cX1_receive 42 = .ok (.invokevirtual 23, 3) := by decide +kernel
theorem dX1_receive_45 : decode cX1_receive 45 = .ok (.istore_n 3, 1) := by decide +kernel
theorem dX1_receive_46 : decode cX1_receive 46 = .ok (.goto (-30), 3) := by decide +kernel
theorem dX1_receive_49 : decode cX1_receive 49 = .ok (.return_, 1) := by decide +kernel
theorem dX1_count_0 : decode cX1_count 0 = .ok (.aload_n 0, 1) := by decide +kernel
theorem dX1_count_1 : decode cX1_count 1 = .ok (.getfield 16, 3) := by decide +kernel
theorem dX1_count_4 : decode cX1_count 4 = .ok (.ireturn, 1) := by decide +kernel
theorem dX1_falseStarts_0 : decode cX1_falseStarts 0 = .ok (.aload_n 0, 1) := by decide +kernel
theorem dX1_falseStarts_1 : decode cX1_falseStarts 1 = .ok (.getfield 20, 3) := by decide +kernel
theorem dX1_falseStarts_4 : decode cX1_falseStarts 4 = .ok (.ireturn, 1) := by decide +kernel
theorem dX1_note_0 : decode cX1_note 0 = .ok (.iload_n 1, 1) := by decide +kernel
theorem dX1_note_1 : decode cX1_note 1 = .ok (.ifCond .lt 20, 3) := by decide +kernel
theorem dX1_note_4 : decode cX1_note 4 = .ok (.iload_n 1, 1) := by decide +kernel
theorem dX1_note_5 : decode cX1_note 5 = .ok (.aload_n 0, 1) := by decide +kernel
theorem dX1_note_6 : decode cX1_note 6 = .ok (.getfield 16, 3) := by decide +kernel
theorem dX1_note_9 : decode cX1_note 9 = .ok (.if_icmp .ge 12, 3) := by decide +kernel
theorem dX1_note_12 : decode cX1_note 12 = .ok (.iload_n 2, 1) := by decide +kernel
theorem dX1_note_13 : decode cX1_note 13 = .ok (.ifCond .lt 8, 3) := by decide +kernel
theorem dX1_note_16 : decode cX1_note 16 = .ok (.iload_n 2, 1) := by decide +kernel
theorem dX1_note_17 : decode cX1_note 17 = .ok (.iconst 5, 1) := by decide +kernel
theorem dX1_note_18 : decode cX1_note 18 = .ok (.if_icmp .lt 6, 3) := by decide +kernel
theorem dX1_note_21 : decode cX1_note 21 = .ok (.bipush (-5), 2) := by decide +kernel
theorem dX1_note_23 : decode cX1_note 23 = .ok (.ireturn, 1) := by decide +kernel
theorem dX1_note_24 : decode cX1_note 24 = .ok (.aload_n 0, 1) := by decide +kernel
theorem dX1_note_25 : decode cX1_note 25 = .ok (.getfield 13, 3) := by decide +kernel
theorem dX1_note_28 : decode cX1_note 28 = .ok (.iload_n 2, 1) := by decide +kernel
theorem dX1_note_29 : decode cX1_note 29 = .ok (.aaload, 1) := by decide +kernel
theorem dX1_note_30 : decode cX1_note 30 = .ok (.iload_n 1, 1) := by decide +kernel
theorem dX1_note_31 : decode cX1_note 31 = .ok (.iaload, 1) := by decide +kernel
theorem dX1_note_32 : decode cX1_note 32 = .ok (.ireturn, 1) := by decide +kernel
set_option maxRecDepth 20000 in
theorem ggX1_countKind_X1_note : GoodIn wsX1_countKind wsX1_note := goodIn_r _ [6, 1, 7, 8, 9, 10, 11] (by decide +kernel) (by decide +kernel)
set_option maxRecDepth 20000 in
theorem gX1_countKind_X1_note : GoodIn wsX1_countKind (wsV RX1 43 RX1 yX1_note wsX1_note) := goodIn_app (goodIn_of _ (by decide +kernel)) ggX1_countKind_X1_note
theorem dX1_countKind_0 : decode cX1_countKind 0 = .ok (.iconst 0, 1) := by decide +kernel
theorem dX1_countKind_1 : decode cX1_countKind 1 = .ok (.istore_n 2, 1) := by decide +kernel
theorem dX1_countKind_2 : decode cX1_countKind 2 = .ok (.iconst 0, 1) := by decide +kernel
theorem dX1_countKind_3 : decode cX1_countKind 3 = .ok (.istore_n 3, 1) := by decide +kernel
theorem dX1_countKind_4 : decode cX1_countKind 4 = .ok (.iload_n 3, 1) := by decide +kernel
theorem dX1_countKind_5 : decode cX1_countKind 5 = .ok (.aload_n 0, 1) := by decide +kernel
theorem dX1_countKind_6 : decode cX1_countKind 6 = .ok (.getfield 16, 3) := by decide +kernel
theorem dX1_countKind_9 : decode cX1_countKind 9 = .ok (.if_icmp .ge 22, 3) := by decide +kernel
theorem dX1_countKind_12 : decode cX1_countKind 12 = .ok (.aload_n 0, 1) := by decide +kernel
theorem dX1_countKind_13 : decode cX1_countKind 13 = .ok (.iload_n 3, 1) := by decide +kernel
theorem dX1_countKind_14 : decode cX1_countKind 14 = .ok (.iconst 0, 1) := by decide +kernel
theorem dX1_countKind_15 : decode cX1_countKind 15 = .ok (.invokevirtual 43, 3) := by decide +kernel
theorem dX1_countKind_18 : decode cX1_countKind 18 = .ok (.iload_n 1, 1) := by decide +kernel
theorem dX1_countKind_19 : decode cX1_countKind 19 = .ok (.if_icmp .ne 6, 3) := by decide +kernel
theorem dX1_countKind_22 : decode cX1_countKind 22 = .ok (.iinc 2 1, 3) := by decide +kernel
theorem dX1_countKind_25 : decode cX1_countKind 25 = .ok (.iinc 3 1, 3) := by decide +kernel
theorem dX1_countKind_28 : decode cX1_countKind 28 = .ok (.goto (-24), 3) := by decide +kernel
theorem dX1_countKind_31 : decode cX1_countKind 31 = .ok (.iload_n 2, 1) := by decide +kernel
theorem dX1_countKind_32 : decode cX1_countKind 32 = .ok (.ireturn, 1) := by decide +kernel
set_option maxRecDepth 20000 in
theorem ggX1_countGoodWord_X1_isGoodWord : GoodIn wsX1_countGoodWord wsX1_isGoodWord := goodIn_r _ [6, 7, 8, 9, 5, 10, 1, 11, 12, 13, 14, 15] (by decide +kernel) (by decide +kernel)
set_option maxRecDepth 20000 in
theorem gX1_countGoodWord_X1_isGoodWord : GoodIn wsX1_countGoodWord (wsV RX1 46 RX1 yX1_isGoodWord wsX1_isGoodWord) := goodIn_app (goodIn_of _ (by decide +kernel)) ggX1_countGoodWord_X1_isGoodWord
theorem dX1_countGoodWord_0 : decode cX1_countGoodWord 0 = .ok (.iconst 0, 1) := by decide +kernel
theorem dX1_countGoodWord_1 : decode cX1_countGoodWord 1 = .ok (.istore_n 2, 1) := by decide +kernel
theorem dX1_countGoodWord_2 : decode cX1_countGoodWord 2 = .ok (.iconst 0, 1) := by decide +kernel
theorem dX1_countGoodWord_3 : decode cX1_countGoodWord 3 = .ok (.istore_n 3, 1) := by decide +kernel
theorem dX1_countGoodWord_4 : decode cX1_countGoodWord 4 = .ok (.iload_n 3, 1) := by decide +kernel
theorem dX1_countGoodWord_5 : decode cX1_countGoodWord 5 = .ok (.aload_n 0, 1) := by decide +kernel
theorem dX1_countGoodWord_6 : decode cX1_countGoodWord 6 = .ok (.getfield 16, 3) := by decide +kernel
theorem dX1_countGoodWord_9 : decode cX1_countGoodWord 9 = .ok (.if_icmp .ge 21, 3) := by decide +kernel
theorem dX1_countGoodWord_12 : decode cX1_countGoodWord 12 = .ok (.aload_n 0, 1) := by decide +kernel
theorem dX1_countGoodWord_13 : decode cX1_countGoodWord 13 = .ok (.iload_n 3, 1) := by decide +kernel
theorem dX1_countGoodWord_14 : decode cX1_countGoodWord 14 = .ok (.iload_n 1, 1) := by decide +kernel
theorem dX1_countGoodWord_15 : decode cX1_countGoodWord 15 = .ok (.invokevirtual 46, 3) := by decide +kernel
theorem dX1_countGoodWord_18 : decode cX1_countGoodWord 18 = .ok (.ifCond .eq 6, 3) := by decide +kernel
theorem dX1_countGoodWord_21 : decode cX1_countGoodWord 21 = .ok (.iinc 2 1, 3) := by decide +kernel
theorem dX1_countGoodWord_24 : decode cX1_countGoodWord 24 = .ok (.iinc 3 1, 3) := by decide +kernel
theorem dX1_countGoodWord_27 : decode cX1_countGoodWord 27 = .ok (.goto (-23), 3) := by decide +kernel
theorem dX1_countGoodWord_30 : decode cX1_countGoodWord 30 = .ok (.iload_n 2, 1) := by decide +kernel
theorem dX1_countGoodWord_31 : decode cX1_countGoodWord 31 = .ok (.ireturn, 1) := by decide +kernel
set_option maxRecDepth 20000 in
theorem ggX1_countDoubtful_X1_note : GoodIn wsX1_countDoubtful wsX1_note := goodIn_r _ [6, 1, 7, 8, 9, 10, 11] (by decide +kernel) (by decide +kernel)
set_option maxRecDepth 20000 in
theorem gX1_countDoubtful_X1_note : GoodIn wsX1_countDoubtful (wsV RX1 43 RX1 yX1_note wsX1_note) := goodIn_app (goodIn_of _ (by decide +kernel)) ggX1_countDoubtful_X1_note
theorem dX1_countDoubtful_0 : decode cX1_countDoubtful 0 = .ok (.iconst 0, 1) := by decide +kernel
theorem dX1_countDoubtful_1 : decode cX1_countDoubtful 1 = .ok (.istore_n 1, 1) := by decide +kernel
theorem dX1_countDoubtful_2 : decode cX1_countDoubtful 2 = .ok (.iconst 0, 1) := by decide +kernel
theorem dX1_countDoubtful_3 : decode cX1_countDoubtful 3 = .ok (.istore_n 2, 1) := by decide +kernel
theorem dX1_countDoubtful_4 : decode cX1_countDoubtful 4 = .ok (.iload_n 2, 1) := by decide +kernel
theorem dX1_countDoubtful_5 : decode cX1_countDoubtful 5 = .ok (.aload_n 0, 1) := by decide +kernel
theorem dX1_countDoubtful_6 : decode cX1_countDoubtful 6 = .ok (.getfield 16, 3) := by decide +kernel
theorem dX1_countDoubtful_9 : decode cX1_countDoubtful 9 = .ok (.if_icmp .ge 18, 3) := by decide +kernel
theorem dX1_countDoubtful_12 : decode cX1_countDoubtful 12 = .ok (.iload_n 1, 1) := by decide +kernel
theorem dX1_countDoubtful_13 : decode cX1_countDoubtful 13 = .ok (.aload_n 0, 1) := by decide +kernel
theorem dX1_countDoubtful_14 : decode cX1_countDoubtful 14 = .ok (.iload_n 2, 1) := by decide +kernel
theorem dX1_countDoubtful_15 : decode cX1_countDoubtful 15 = .ok (.iconst 3, 1) := by decide +kernel
theorem dX1_countDoubtful_16 : decode cX1_countDoubtful 16 = .ok (.invokevirtual 43, 3) := by decide +kernel
theorem dX1_countDoubtful_19 : decode cX1_countDoubtful 19 = .ok (.iadd, 1) := by decide +kernel
theorem dX1_countDoubtful_20 : decode cX1_countDoubtful 20 = .ok (.istore_n 1, 1) := by decide +kernel
theorem dX1_countDoubtful_21 : decode cX1_countDoubtful 21 = .ok (.iinc 2 1, 3) := by decide +kernel
theorem dX1_countDoubtful_24 : decode cX1_countDoubtful 24 = .ok (.goto (-20), 3) := by decide +kernel
theorem dX1_countDoubtful_27 : decode cX1_countDoubtful 27 = .ok (.iload_n 1, 1) := by decide +kernel
theorem dX1_countDoubtful_28 : decode cX1_countDoubtful 28 = .ok (.ireturn, 1) := by decide +kernel
set_option maxRecDepth 20000 in
theorem ggX1_isAllWell_X2_wordCount : GoodIn wsX1_isAllWell wsX2_wordCount := goodIn_r _ [6, 7, 27, 28, 29, 30, 31] (by decide +kernel) (by decide +kernel)
set_option maxRecDepth 20000 in
theorem gX1_isAllWell_X2_wordCount : GoodIn wsX1_isAllWell (wsV RX1 50 RX2 yX2_wordCount wsX2_wordCount) := goodIn_app (goodIn_of _ (by decide +kernel)) ggX1_isAllWell_X2_wordCount
set_option maxRecDepth 20000 in
theorem ggX1_isAllWell_X2_wordOfRank : GoodIn wsX1_isAllWell wsX2_wordOfRank := goodIn_r _ [11, 7, 12, 27, 28, 29, 30, 31] (by decide +kernel) (by decide +kernel)
set_option maxRecDepth 20000 in
theorem gX1_isAllWell_X2_wordOfRank : GoodIn wsX1_isAllWell (wsV RX1 53 RX2 yX2_wordOfRank wsX2_wordOfRank) := goodIn_app (goodIn_of _ (by decide +kernel)) ggX1_isAllWell_X2_wordOfRank
set_option maxRecDepth 20000 in
theorem ggX1_isAllWell_X1_isGoodWord : GoodIn wsX1_isAllWell wsX1_isGoodWord := goodIn_r _ [17, 18, 19, 20, 16, 21, 1, 22, 23, 24, 25, 26] (by decide +kernel) (by decide +kernel)
set_option maxRecDepth 20000 in
theorem gX1_isAllWell_X1_isGoodWord : GoodIn wsX1_isAllWell (wsV RX1 46 RX1 yX1_isGoodWord wsX1_isGoodWord) := goodIn_app (goodIn_of _ (by decide +kernel)) ggX1_isAllWell_X1_isGoodWord
theorem dX1_isAllWell_0 : decode cX1_isAllWell 0 = .ok (.aload_n 0, 1) := by decide +kernel
theorem dX1_isAllWell_1 : decode cX1_isAllWell 1 = .ok (.getfield 16, 3) := by decide +kernel
theorem dX1_isAllWell_4 : decode cX1_isAllWell 4 = .ok (.aload_n 1, 1) := by decide +kernel
theorem dX1_isAllWell_5 : decode cX1_isAllWell 5 = .ok (.invokevirtual 50, 3) := by decide +kernel
theorem dX1_isAllWell_8 : decode cX1_isAllWell 8 = .ok (.if_icmp .eq 5, 3) := by decide +kernel
theorem dX1_isAllWell_11 : decode cX1_isAllWell 11 = .ok (.iconst 0, 1) := by decide +kernel
theorem dX1_isAllWell_12 : decode cX1_isAllWell 12 = .ok (.ireturn, 1) := by decide +kernel
theorem dX1_isAllWell_13 : decode cX1_isAllWell 13 = .ok (.iconst 0, 1) := by decide +kernel
theorem dX1_isAllWell_14 : decode cX1_isAllWell 14 = .ok (.istore_n 2, 1) := by decide +kernel
theorem dX1_isAllWell_15 : decode cX1_isAllWell 15 = .ok (.iload_n 2, 1) := by decide +kernel
theorem dX1_isAllWell_16 : decode cX1_isAllWell 16 = .ok (.aload_n 0, 1) := by decide +kernel
theorem dX1_isAllWell_17 : decode cX1_isAllWell 17 = .ok (.getfield 16, 3) := by decide +kernel
theorem dX1_isAllWell_20 : decode cX1_isAllWell 20 = .ok (.if_icmp .ge 24, 3) := by decide +kernel
theorem dX1_isAllWell_23 : decode cX1_isAllWell 23 = .ok (.aload_n 0, 1) := by decide +kernel
theorem dX1_isAllWell_24 : decode cX1_isAllWell 24 = .ok (.iload_n 2, 1) := by decide +kernel
theorem dX1_isAllWell_25 : decode cX1_isAllWell 25 = .ok (.aload_n 1, 1) := by decide +kernel
theorem dX1_isAllWell_26 : decode cX1_isAllWell 26 = .ok (.iload_n 2, 1) := by decide +kernel
theorem dX1_isAllWell_27 : decode cX1_isAllWell 27 = .ok (.invokevirtual 53, 3) := by decide +kernel
theorem dX1_isAllWell_30 : decode cX1_isAllWell 30 = .ok (.invokevirtual 46, 3) := by decide +kernel
theorem dX1_isAllWell_33 : decode cX1_isAllWell 33 = .ok (.ifCond .ne 5, 3) := by decide +kernel
theorem dX1_isAllWell_36 : decode cX1_isAllWell 36 = .ok (.iconst 0, 1) := by decide +kernel
theorem dX1_isAllWell_37 : decode cX1_isAllWell 37 = .ok (.ireturn, 1) := by decide +kernel
theorem dX1_isAllWell_38 : decode cX1_isAllWell 38 = .ok (.iinc 2 1, 3) := by decide +kernel
theorem dX1_isAllWell_41 : decode cX1_isAllWell 41 = .ok (.goto (-26), 3) := by decide +kernel
theorem dX1_isAllWell_44 : decode cX1_isAllWell 44 = .ok (.iconst 1, 1) := by decide +kernel
theorem dX1_isAllWell_45 : decode cX1_isAllWell 45 = .ok (.ireturn, 1) := by decide +kernel
set_option maxRecDepth 20000 in
theorem ggX1_isGoodWord_X1_note : GoodIn wsX1_isGoodWord wsX1_note := goodIn_r _ [5, 6, 7, 8, 9, 10, 11] (by decide +kernel) (by decide +kernel)
set_option maxRecDepth 20000 in
theorem gX1_isGoodWord_X1_note : GoodIn wsX1_isGoodWord (wsV RX1 43 RX1 yX1_note wsX1_note) := goodIn_app (goodIn_of _ (by decide +kernel)) ggX1_isGoodWord_X1_note
theorem dX1_isGoodWord_0 : decode cX1_isGoodWord 0 = .ok (.aload_n 0, 1) := by decide +kernel
theorem dX1_isGoodWord_1 : decode cX1_isGoodWord 1 = .ok (.iload_n 1, 1) := by decide +kernel
theorem dX1_isGoodWord_2 : decode cX1_isGoodWord 2 = .ok (.iconst 0, 1) := by decide +kernel
theorem dX1_isGoodWord_3 : decode cX1_isGoodWord 3 = .ok (.invokevirtual 43, 3) := by decide +kernel
theorem dX1_isGoodWord_6 : decode cX1_isGoodWord 6 = .ok (.ifCond .ne 17, 3) := by decide +kernel
theorem dX1_isGoodWord_9 : decode cX1_isGoodWord 9 = .ok (.aload_n 0, 1) := by decide +kernel
theorem dX1_isGoodWord_10 : decode cX1_isGoodWord 10 = .ok (.iload_n 1, 1) := by decide +kernel
theorem dX1_isGoodWord_11 : decode cX1_isGoodWord 11 = .ok (.iconst 1, 1) := by decide +kernel
theorem dX1_isGoodWord_12 : decode cX1_isGoodWord 12 = .ok (.invokevirtual 43, 3) := by decide +kernel
theorem dX1_isGoodWord_15 : decode cX1_isGoodWord 15 = .ok (.iload_n 2, 1) := by decide +kernel
theorem dX1_isGoodWord_16 : decode cX1_isGoodWord 16 = .ok (.if_icmp .ne 7, 3) := by decide +kernel
theorem dX1_isGoodWord_19 : decode cX1_isGoodWord 19 = .ok (.iconst 1, 1) := by decide +kernel
theorem dX1_isGoodWord_20 : decode cX1_isGoodWord 20 = .ok (.goto 4, 3) := by decide +kernel
theorem dX1_isGoodWord_23 : decode cX1_isGoodWord 23 = .ok (.iconst 0, 1) := by decide +kernel
theorem dX1_isGoodWord_24 : decode cX1_isGoodWord 24 = .ok (.ireturn, 1) := by decide +kernel
set_option maxRecDepth 20000 in
theorem ggX1_tellFrom_X1_tellBit : GoodIn wsX1_tellFrom wsX1_tellBit := goodIn_r _ [7, 1, 8, 9, 10, 11, 12, 13, 14, 15, 16, 6, 17, 18, 19, 20, 21, 22, 45, 46, 47, 48, 49, 50, 51, 52, 53] (by decide +kernel) (by decide +kernel)
set_option maxRecDepth 20000 in
theorem gX1_tellFrom_X1_tellBit : GoodIn wsX1_tellFrom (wsV RX1 59 RX1 yX1_tellBit wsX1_tellBit) := goodIn_app (goodIn_of _ (by decide +kernel)) ggX1_tellFrom_X1_tellBit
set_option maxRecDepth 20000 in
theorem ggX1_tellFrom_X1_thirdLook : GoodIn wsX1_tellFrom wsX1_thirdLook := goodIn_r _ [17] (by decide +kernel) (by decide +kernel)
set_option maxRecDepth 20000 in
theorem gX1_tellFrom_X1_thirdLook : GoodIn wsX1_tellFrom (va_wsS RX1 62 yX1_thirdLook wsX1_thirdLook) := goodIn_app (goodIn_of _ (by decide +kernel)) ggX1_tellFrom_X1_thirdLook
set_option maxRecDepth 20000 in
theorem ggX1_tellFrom_X2_setting : GoodIn wsX1_tellFrom wsX2_setting := goodIn_r _ [21, 22, 49, 50, 51, 52, 53] (by decide +kernel) (by decide +kernel)
set_option maxRecDepth 20000 in
theorem gX1_tellFrom_X2_setting : GoodIn wsX1_tellFrom (wsV RX1 65 RX2 yX2_setting wsX2_setting) := goodIn_app (goodIn_of _ (by decide +kernel)) ggX1_tellFrom_X2_setting
set_option maxRecDepth 20000 in
theorem ggX1_tellFrom_X1_kindOf : GoodIn wsX1_tellFrom wsX1_kindOf := goodIn_r _ [25, 26, 27, 6, 28, 29, 30, 31, 32, 33, 34, 35, 36, 37, 38] (by decide +kernel) (by decide +kernel)
set_option maxRecDepth 20000 in
theorem gX1_tellFrom_X1_kindOf : GoodIn wsX1_tellFrom (va_wsS RX1 68 yX1_kindOf wsX1_kindOf) := goodIn_app (goodIn_of _ (by decide +kernel)) ggX1_tellFrom_X1_kindOf
set_option maxRecDepth 20000 in
theorem ggX1_tellFrom_X1_wordIn : GoodIn wsX1_tellFrom wsX1_wordIn := goodIn_r _ [28] (by decide +kernel) (by decide +kernel)
set_option maxRecDepth 20000 in
theorem gX1_tellFrom_X1_wordIn : GoodIn wsX1_tellFrom (va_wsS RX1 72 yX1_wordIn wsX1_wordIn) := goodIn_app (goodIn_of _ (by decide +kernel)) ggX1_tellFrom_X1_wordIn
set_option maxRecDepth 20000 in
theorem ggX1_tellFrom_X1_add : GoodIn wsX1_tellFrom wsX1_add := goodIn_r _ [42, 43, 44, 1, 45, 46, 47, 48] (by decide +kernel) (by decide +kernel)
set_option maxRecDepth 20000 in
theorem gX1_tellFrom_X1_add : GoodIn wsX1_tellFrom (wsV RX1 75 RX1 yX1_add wsX1_add) := goodIn_app (goodIn_of _ (by decide +kernel)) ggX1_tellFrom_X1_add
theorem dX1_tellFrom_0 : decode cX1_tellFrom 0 = .ok (.aload_n 0, 1) := by decide +kernel
theorem dX1_tellFrom_1 : decode cX1_tellFrom 1 = .ok (.iconst 0, 1) := by decide +kernel
theorem dX1_tellFrom_2 : decode cX1_tellFrom 2 = .ok (.putfield 56, 3) := by decide +kernel
theorem dX1_tellFrom_5 : decode cX1_tellFrom 5 = .ok (.aload_n 0, 1) := by decide +kernel
theorem dX1_tellFrom_6 : decode cX1_tellFrom 6 = .ok (.aload_n 1, 1) := by decide +kernel
theorem dX1_tellFrom_7 : decode cX1_tellFrom 7 = .ok (.iload_n 2, 1) := by decide +kernel
theorem dX1_tellFrom_8 : decode cX1_tellFrom 8 = .ok (.iload_n 3, 1) := by decide +kernel
theorem dX1_tellFrom_9 : decode cX1_tellFrom 9 = .ok (.invokevirtual 59, 3) := by decide +kernel
theorem dX1_tellFrom_12 : decode cX1_tellFrom 12 = .ok (.iconst 1, 1) := by decide +kernel
theorem dX1_tellFrom_13 : decode cX1_tellFrom 13 = .ok (.if_icmp .ne 21, 3) := by decide +kernel
theorem dX1_tellFrom_16 : decode cX1_tellFrom 16 = .ok (.aload_n 0, 1) := by decide +kernel
theorem dX1_tellFrom_17 : decode cX1_tellFrom 17 = .ok (.dup, 1) := by decide +kernel
theorem dX1_tellFrom_18 : decode cX1_tellFrom 18 = .ok (.getfield 20, 3) := by decide +kernel
theorem dX1_tellFrom_21 : decode cX1_tellFrom 21 = .ok (.iconst 1, 1) := by decide +kernel
theorem dX1_tellFrom_22 : decode cX1_tellFrom 22 = .ok (.iadd, 1) := by decide +kernel
theorem dX1_tellFrom_23 : decode cX1_tellFrom 23 = .ok (.putfield 20, 3) := by decide +kernel
theorem dX1_tellFrom_26 : decode cX1_tellFrom 26 = .ok (.iload_n 2, 1) := by decide +kernel
theorem dX1_tellFrom_27 : decode cX1_tellFrom 27 = .ok (.iload_n 3, 1) := by decide +kernel
theorem dX1_tellFrom_28 : decode cX1_tellFrom 28 = .ok (.invokestatic 62, 3) := by decide +kernel
theorem dX1_tellFrom_31 : decode cX1_tellFrom 31 = .ok (.iconst 1, 1) := by decide +kernel
theorem dX1_tellFrom_32 : decode cX1_tellFrom 32 = .ok (.iadd, 1) := by decide +kernel
theorem dX1_tellFrom_33 : decode cX1_tellFrom 33 = .ok (.ireturn, 1) := by decide +kernel
theorem dX1_tellFrom_34 : decode cX1_tellFrom 34 = .ok (.aload_n 1, 1) := by decide +kernel
theorem dX1_tellFrom_35 : decode cX1_tellFrom 35 = .ok (.iconst 2, 1) := by decide +kernel
theorem dX1_tellFrom_36 : decode cX1_tellFrom 36 = .ok (.invokevirtual 65, 3) := by decide +kernel
theorem dX1_tellFrom_39 : decode cX1_tellFrom 39 = .ok (.ifCond .ne 8, 3) := by decide +kernel
theorem dX1_tellFrom_42 : decode cX1_tellFrom 42 = .ok (.bipush 9, 2) := by decide +kernel
theorem dX1_tellFrom_44 : decode cX1_tellFrom 44 = .ok (.goto 5, 3) := by decide +kernel
theorem dX1_tellFrom_47 : decode cX1_tellFrom 47 = .ok (.bipush 10, 2) := by decide +kernel
theorem dX1_tellFrom_49 : decode cX1_tellFrom 49 = .ok (.istore 4, 2) := by decide +kernel
theorem dX1_tellFrom_51 : decode cX1_tellFrom 51 = .ok (.iconst 0, 1) := by decide +kernel
theorem dX1_tellFrom_52 : decode cX1_tellFrom 52 = .ok (.istore 5, 2) := by decide +kernel
theorem dX1_tellFrom_54 : decode cX1_tellFrom 54 = .ok (.iconst 1, 1) := by decide +kernel
theorem dX1_tellFrom_55 : decode cX1_tellFrom 55 = .ok (.istore 6, 2) := by decide +kernel
theorem dX1_tellFrom_57 : decode cX1_tellFrom 57 = .ok (.iload 6, 2) := by decide +kernel
theorem dX1_tellFrom_59 : decode cX1_tellFrom 59 = .ok (.iload 4, 2) := by decide +kernel
theorem dX1_tellFrom_61 : decode cX1_tellFrom 61 = .ok (.if_icmp .gt 29, 3) := by decide +kernel
theorem dX1_tellFrom_64 : decode cX1_tellFrom 64 = .ok (.iload 5, 2) := by decide +kernel
theorem dX1_tellFrom_66 : decode cX1_tellFrom 66 = .ok (.aload_n 0, 1) := by decide +kernel
theorem dX1_tellFrom_67 : decode cX1_tellFrom 67 = .ok (.aload_n 1, 1) := by decide +kernel
theorem dX1_tellFrom_68 : decode cX1_tellFrom 68 = .ok (.iload_n 2, 1) := by decide +kernel
theorem dX1_tellFrom_69 : decode cX1_tellFrom 69 = .ok (.iload 6, 2) := by decide +kernel
theorem dX1_tellFrom_71 : decode cX1_tellFrom 71 = .ok (.iload_n 3, 1) := by decide +kernel
theorem dX1_tellFrom_72 : decode cX1_tellFrom 72 = .ok (.imul, 1) := by decide +kernel
theorem dX1_tellFrom_73 : decode cX1_tellFrom 73 = .ok (.iadd, 1) := by decide +kernel
theorem dX1_tellFrom_74 : decode cX1_tellFrom 74 = .ok (.iload_n 3, 1) := by decide +kernel
theorem dX1_tellFrom_75 : decode cX1_tellFrom 75 = .ok (.invokevirtual 59, 3) := by decide +kernel
theorem dX1_tellFrom_78 : decode cX1_tellFrom 78 = .ok (.iload 6, 2) := by decide +kernel
theorem dX1_tellFrom_80 : decode cX1_tellFrom 80 = .ok (.ishl, 1) := by decide +kernel
theorem dX1_tellFrom_81 : decode cX1_tellFrom 81 = .ok (.ior, 1) := by decide +kernel
theorem dX1_tellFrom_82 : decode cX1_tellFrom 82 = .ok (.istore 5, 2) := by decide +kernel
theorem dX1_tellFrom_84 : decode cX1_tellFrom 84 = .ok (.iinc 6 1, 3) := by decide +kernel
theorem dX1_tellFrom_87 : decode cX1_tellFrom 87 = .ok (.goto (-30), 3) := by decide +kernel
theorem dX1_tellFrom_90 : decode cX1_tellFrom 90 = .ok (.iload 5, 2) := by decide +kernel
theorem dX1_tellFrom_92 : decode cX1_tellFrom 92 = .ok (.iload 4, 2) := by decide +kernel
theorem dX1_tellFrom_94 : decode cX1_tellFrom 94 = .ok (.aload_n 1, 1) := by decide +kernel
theorem dX1_tellFrom_95 : decode cX1_tellFrom 95 = .ok (.iconst 2, 1) := by decide +kernel
theorem dX1_tellFrom_96 : decode cX1_tellFrom 96 = .ok (.invokevirtual 65, 3) := by decide +kernel
theorem dX1_tellFrom_99 : decode cX1_tellFrom 99 = .ok (.invokestatic 68, 3) := by decide +kernel
theorem dX1_tellFrom_102 : decode cX1_tellFrom 102 = .ok (.istore 6, 2) := by decide +kernel
theorem dX1_tellFrom_104 : decode cX1_tellFrom 104 = .ok (.iload_n 2, 1) := by decide +kernel
theorem dX1_tellFrom_105 : decode cX1_tellFrom 105 = .ok (.iload 4, 2) := by decide +kernel
theorem dX1_tellFrom_107 : decode cX1_tellFrom 107 = .ok (.iload_n 3, 1) := by decide +kernel
theorem dX1_tellFrom_108 : decode cX1_tellFrom 108 = .ok (.imul, 1) := by decide +kernel
theorem dX1_tellFrom_109 : decode cX1_tellFrom 109 = .ok (.iadd, 1) := by decide +kernel
theorem dX1_tellFrom_110 : decode cX1_tellFrom 110 = .ok (.iload_n 3, 1) := by decide +kernel
theorem dX1_tellFrom_111 : decode cX1_tellFrom 111 = .ok (.invokestatic 62, 3) := by decide +kernel
theorem dX1_tellFrom_114 : decode cX1_tellFrom 114 = .ok (.istore 7, 2) := by decide +kernel
theorem dX1_tellFrom_116 : decode cX1_tellFrom 116 = .ok (.aload_n 0, 1) := by decide +kernel
theorem dX1_tellFrom_117 : decode cX1_tellFrom 117 = .ok (.iload 6, 2) := by decide +kernel
theorem dX1_tellFrom_119 : decode cX1_tellFrom 119 = .ok (.iload 5, 2) := by decide +kernel
theorem dX1_tellFrom_121 : decode cX1_tellFrom 121 = .ok (.invokestatic 72, 3) := by decide +kernel
theorem dX1_tellFrom_124 : decode cX1_tellFrom 124 = .ok (.iload_n 2, 1) := by decide +kernel
theorem dX1_tellFrom_125 : decode cX1_tellFrom 125 = .ok (.iload 7, 2) := by decide +kernel
theorem dX1_tellFrom_127 : decode cX1_tellFrom 127 = .ok (.invokevirtual 75, 3) := by decide +kernel
theorem dX1_tellFrom_130 : decode cX1_tellFrom 130 = .ok (.iload 6, 2) := by decide +kernel
theorem dX1_tellFrom_132 : decode cX1_tellFrom 132 = .ok (.iconst 3, 1) := by decide +kernel
theorem dX1_tellFrom_133 : decode cX1_tellFrom 133 = .ok (.if_icmp .ne 10, 3) := by decide +kernel
theorem dX1_tellFrom_136 : decode cX1_tellFrom 136 = .ok (.iload 7, 2) := by decide +kernel
theorem dX1_tellFrom_138 : decode cX1_tellFrom 138 = .ok (.iconst 2, 1) := by decide +kernel
theorem dX1_tellFrom_139 : decode cX1_tellFrom 139 = .ok (.iadd, 1) := by decide +kernel
theorem dX1_tellFrom_140 : decode cX1_tellFrom 140 = .ok (.goto 7, 3) := by decide +kernel
theorem dX1_tellFrom_143 : decode cX1_tellFrom 143 = .ok (.iload 7, 2) := by decide +kernel
theorem dX1_tellFrom_145 : decode cX1_tellFrom 145 = .ok (.iconst 1, 1) := by decide +kernel
theorem dX1_tellFrom_146 : decode cX1_tellFrom 146 = .ok (.iadd, 1) := by decide +kernel
theorem dX1_tellFrom_147 : decode cX1_tellFrom 147 = .ok (.ireturn, 1) := by decide +kernel
set_option maxRecDepth 20000 in
theorem ggX1_tellBit_X2_levelAt : GoodIn wsX1_tellBit wsX2_levelAt := goodIn_r _ [6, 7, 8, 22, 23, 24, 25, 26] (by decide +kernel) (by decide +kernel)
set_option maxRecDepth 20000 in
theorem gX1_tellBit_X2_levelAt : GoodIn wsX1_tellBit (wsV RX1 79 RX2 yX2_levelAt wsX2_levelAt) := goodIn_app (goodIn_of _ (by decide +kernel)) ggX1_tellBit_X2_levelAt
set_option maxRecDepth 20000 in
theorem ggX1_tellBit_X1_thirdLook : GoodIn wsX1_tellBit wsX1_thirdLook := goodIn_r _ [12] (by decide +kernel) (by decide +kernel)
set_option maxRecDepth 20000 in
theorem gX1_tellBit_X1_thirdLook : GoodIn wsX1_tellBit (va_wsS RX1 62 yX1_thirdLook wsX1_thirdLook) := goodIn_app (goodIn_of _ (by decide +kernel)) ggX1_tellBit_X1_thirdLook
set_option maxRecDepth 20000 in
theorem ggX1_tellBit_X2_setting : GoodIn wsX1_tellBit wsX2_setting := goodIn_r _ [16, 17, 22, 23, 24, 25, 26] (by decide +kernel) (by decide +kernel)
set_option maxRecDepth 20000 in
theorem gX1_tellBit_X2_setting : GoodIn wsX1_tellBit (wsV RX1 65 RX2 yX2_setting wsX2_setting) := goodIn_app (goodIn_of _ (by decide +kernel)) ggX1_tellBit_X2_setting
theorem dX1_tellBit_0 : decode cX1_tellBit 0 = .ok (.aload_n 1, 1) := by decide +kernel
theorem dX1_tellBit_1 : decode cX1_tellBit 1 = .ok (.iload_n 2, 1) := by decide +kernel
theorem dX1_tellBit_2 : decode cX1_tellBit 2 = .ok (.iload_n 3, 1) := by decide +kernel
theorem dX1_tellBit_3 : decode cX1_tellBit 3 = .ok (.iconst 2, 1) := by decide +kernel
theorem dX1_tellBit_4 : decode cX1_tellBit 4 = .ok (.idiv, 1) := by decide +kernel
theorem dX1_tellBit_5 : decode cX1_tellBit 5 = .ok (.iadd, 1) := by decide +kernel
theorem dX1_tellBit_6 : decode cX1_tellBit 6 = .ok (.invokevirtual 79, 3) := by decide +kernel
theorem dX1_tellBit_9 : decode cX1_tellBit 9 = .ok (.istore 4, 2) := by decide +kernel
theorem dX1_tellBit_11 : decode cX1_tellBit 11 = .ok (.aload_n 1, 1) := by decide +kernel
theorem dX1_tellBit_12 : decode cX1_tellBit 12 = .ok (.iload_n 2, 1) := by decide +kernel
theorem dX1_tellBit_13 : decode cX1_tellBit 13 = .ok (.iload_n 3, 1) := by decide +kernel
theorem dX1_tellBit_14 : decode cX1_tellBit 14 = .ok (.iconst 3, 1) := by decide +kernel
theorem dX1_tellBit_15 : decode cX1_tellBit 15 = .ok (.idiv, 1) := by decide +kernel
theorem dX1_tellBit_16 : decode cX1_tellBit 16 = .ok (.iadd, 1) := by decide +kernel
theorem dX1_tellBit_17 : decode cX1_tellBit 17 = .ok (.invokevirtual 79, 3) := by decide +kernel
theorem dX1_tellBit_20 : decode cX1_tellBit 20 = .ok (.iload 4, 2) := by decide +kernel
theorem dX1_tellBit_22 : decode cX1_tellBit 22 = .ok (.iadd, 1) := by decide +kernel
theorem dX1_tellBit_23 : decode cX1_tellBit 23 = .ok (.aload_n 1, 1) := by decide +kernel
theorem dX1_tellBit_24 : decode cX1_tellBit 24 = .ok (.iload_n 2, 1) := by decide +kernel
theorem dX1_tellBit_25 : decode cX1_tellBit 25 = .ok (.iload_n 3, 1) := by decide +kernel
theorem dX1_tellBit_26 : decode cX1_tellBit 26 = .ok (.invokestatic 62, 3) := by decide +kernel
theorem dX1_tellBit_29 : decode cX1_tellBit 29 = .ok (.invokevirtual 79, 3) := by decide +kernel
theorem dX1_tellBit_32 : decode cX1_tellBit 32 = .ok (.iadd, 1) := by decide +kernel
theorem dX1_tellBit_33 : decode cX1_tellBit 33 = .ok (.istore 5, 2) := by decide +kernel
theorem dX1_tellBit_35 : decode cX1_tellBit 35 = .ok (.iload 5, 2) := by decide +kernel
theorem dX1_tellBit_37 : decode cX1_tellBit 37 = .ok (.iconst 1, 1) := by decide +kernel
theorem dX1_tellBit_38 : decode cX1_tellBit 38 = .ok (.if_icmp .eq 9, 3) := by decide +kernel
theorem dX1_tellBit_41 : decode cX1_tellBit 41 = .ok (.iload 5, 2) := by decide +kernel
theorem dX1_tellBit_43 : decode cX1_tellBit 43 = .ok (.iconst 2, 1) := by decide +kernel
theorem dX1_tellBit_44 : decode cX1_tellBit 44 = .ok (.if_icmp .ne 13, 3) := by decide +kernel
theorem dX1_tellBit_47 : decode cX1_tellBit 47 = .ok (.aload_n 0, 1) := by decide +kernel
theorem dX1_tellBit_48 : decode cX1_tellBit 48 = .ok (.dup, 1) := by decide +kernel
theorem dX1_tellBit_49 : decode cX1_tellBit 49 = .ok (.getfield 56, 3) := by decide +kernel
theorem dX1_tellBit_52 : decode cX1_tellBit 52 = .ok (.iconst 1, 1) := by decide +kernel
theorem dX1_tellBit_53 : decode cX1_tellBit 53 = .ok (.iadd, 1) := by decide +kernel
theorem dX1_tellBit_54 : decode cX1_tellBit 54 = .ok (.putfield 56, 3) := by decide +kernel
theorem dX1_tellBit_57 : decode cX1_tellBit 57 = .ok (.aload_n 1, 1) := by decide +kernel
theorem dX1_tellBit_58 : decode cX1_tellBit 58 = .ok (.iconst 4, 1) := by decide +kernel
theorem dX1_tellBit_59 : decode cX1_tellBit 59 = .ok (.invokevirtual 65, 3) := by decide +kernel
theorem dX1_tellBit_62 : decode cX1_tellBit 62 = .ok (.iconst 1, 1) := by decide +kernel
theorem dX1_tellBit_63 : decode cX1_tellBit 63 = .ok (.if_icmp .ne 6, 3) := by decide +kernel
theorem dX1_tellBit_66 : decode cX1_tellBit 66 = .ok (.iload 4, 2) := by decide +kernel
theorem dX1_tellBit_68 : decode cX1_tellBit 68 = .ok (.ireturn, 1) := by decide +kernel
theorem dX1_tellBit_69 : decode cX1_tellBit 69 = .ok (.iload 5, 2) := by decide +kernel
theorem dX1_tellBit_71 : decode cX1_tellBit 71 = .ok (.iconst 2, 1) := by decide +kernel
theorem dX1_tellBit_72 : decode cX1_tellBit 72 = .ok (.if_icmp .lt 7, 3) := by decide +kernel
theorem dX1_tellBit_75 : decode cX1_tellBit 75 = .ok (.iconst 1, 1) := by decide +kernel
theorem dX1_tellBit_76 : decode cX1_tellBit 76 = .ok (.goto 4, 3) := by decide +kernel
theorem dX1_tellBit_79 : decode cX1_tellBit 79 = .ok (.iconst 0, 1) := by decide +kernel
theorem dX1_tellBit_80 : decode cX1_tellBit 80 = .ok (.ireturn, 1) := by decide +kernel
theorem dX1_thirdLook_0 : decode cX1_thirdLook 0 = .ok (.iload_n 0, 1) := by decide +kernel
theorem dX1_thirdLook_1 : decode cX1_thirdLook 1 = .ok (.iconst 2, 1) := by decide +kernel
theorem dX1_thirdLook_2 : decode cX1_thirdLook 2 = .ok (.iload_n 1, 1) := by decide +kernel
theorem dX1_thirdLook_3 : decode cX1_thirdLook 3 = .ok (.imul, 1) := by decide +kernel
theorem dX1_thirdLook_4 : decode cX1_thirdLook 4 = .ok (.iconst 3, 1) := by decide +kernel
theorem dX1_thirdLook_5 : decode cX1_thirdLook 5 = .ok (.idiv, 1) := by decide +kernel
theorem dX1_thirdLook_6 : decode cX1_thirdLook 6 = .ok (.iadd, 1) := by decide +kernel
theorem dX1_thirdLook_7 : decode cX1_thirdLook 7 = .ok (.ireturn, 1) := by decide +kernel
theorem dX1_wordIn_0 : decode cX1_wordIn 0 = .ok (.iload_n 0, 1) := by decide +kernel
theorem dX1_wordIn_1 : decode cX1_wordIn 1 = .ok (.iconst 1, 1) := by decide +kernel
theorem dX1_wordIn_2 : decode cX1_wordIn 2 = .ok (.ishr, 1) := by decide +kernel
theorem dX1_wordIn_3 : decode cX1_wordIn 3 = .ok (.sipush 255, 3) := by decide +kernel
theorem dX1_wordIn_6 : decode cX1_wordIn 6 = .ok (.iand, 1) := by decide +kernel
theorem dX1_wordIn_7 : decode cX1_wordIn 7 = .ok (.ireturn, 1) := by decide +kernel
set_option maxRecDepth 20000 in
theorem ggX1_kindOf_X1_wordIn : GoodIn wsX1_kindOf wsX1_wordIn := goodIn_r _ [4] (by decide +kernel) (by decide +kernel)
set_option maxRecDepth 20000 in
theorem gX1_kindOf_X1_wordIn : GoodIn wsX1_kindOf (va_wsS RX1 72 yX1_wordIn wsX1_wordIn) := goodIn_app (goodIn_of _ (by decide +kernel)) ggX1_kindOf_X1_wordIn
set_option maxRecDepth 20000 in
theorem ggX1_kindOf_X4_parityOf : GoodIn wsX1_kindOf wsX4_parityOf := goodIn_r _ [7, 8, 9, 10, 11, 12, 13, 14] (by decide +kernel) (by decide +kernel)
set_option maxRecDepth 20000 in
theorem gX1_kindOf_X4_parityOf_n82 : GoodIn wsX1_kindOf (wsX4_parityOf) := ggX1_kindOf_X4_parityOf
theorem dX1_kindOf_0 : decode cX1_kindOf 0 = .ok (.iload_n 0, 1) := by decide +kernel
theorem dX1_kindOf_1 : decode cX1_kindOf 1 = .ok (.ifCond .ne 5, 3) := by decide +kernel
theorem dX1_kindOf_4 : decode cX1_kindOf 4 = .ok (.iconst 3, 1) := by decide +kernel
theorem dX1_kindOf_5 : decode cX1_kindOf 5 = .ok (.ireturn, 1) := by decide +kernel
theorem dX1_kindOf_6 : decode cX1_kindOf 6 = .ok (.iload_n 0, 1) := by decide +kernel
theorem dX1_kindOf_7 : decode cX1_kindOf 7 = .ok (.iload_n 1, 1) := by decide +kernel
theorem dX1_kindOf_8 : decode cX1_kindOf 8 = .ok (.ishr, 1) := by decide +kernel
theorem dX1_kindOf_9 : decode cX1_kindOf 9 = .ok (.iconst 1, 1) := by decide +kernel
theorem dX1_kindOf_10 : decode cX1_kindOf 10 = .ok (.iand, 1) := by decide +kernel
theorem dX1_kindOf_11 : decode cX1_kindOf 11 = .ok (.ifCond .ne 5, 3) := by decide +kernel
theorem dX1_kindOf_14 : decode cX1_kindOf 14 = .ok (.iconst 2, 1) := by decide +kernel
theorem dX1_kindOf_15 : decode cX1_kindOf 15 = .ok (.ireturn, 1) := by decide +kernel
theorem dX1_kindOf_16 : decode cX1_kindOf 16 = .ok (.iload_n 2, 1) := by decide +kernel
theorem dX1_kindOf_17 : decode cX1_kindOf 17 = .ok (.ifCond .eq 22, 3) := by decide +kernel
theorem dX1_kindOf_20 : decode cX1_kindOf 20 = .ok (.iload_n 0, 1) := by decide +kernel
theorem dX1_kindOf_21 : decode cX1_kindOf 21 = .ok (.bipush 9, 2) := by decide +kernel
theorem dX1_kindOf_23 : decode cX1_kindOf 23 = .ok (.ishr, 1) := by decide +kernel
theorem dX1_kindOf_24 : decode cX1_kindOf 24 = .ok (.iconst 1, 1) := by decide +kernel
theorem dX1_kindOf_25 : decode cX1_kindOf 25 = .ok (.iand, 1) := by decide +kernel
theorem dX1_kindOf_26 : decode cX1_kindOf 26 = .ok (.iload_n 0, 1) := by decide +kernel
theorem dX1_kindOf_27 : decode cX1_kindOf 27 = .ok (.invokestatic 72, 3) := by decide +kernel
theorem dX1_kindOf_30 : decode cX1_kindOf 30 = .ok (.iload_n 2, 1) := by decide +kernel
theorem dX1_kindOf_31 : decode cX1_kindOf 31 = .ok (.invokestatic 82, 3) := by decide +kernel
theorem dX1_kindOf_34 : decode cX1_kindOf 34 = .ok (.if_icmp .eq 5, 3) := by decide +kernel
theorem dX1_kindOf_37 : decode cX1_kindOf 37 = .ok (.iconst 1, 1) := by decide +kernel
theorem dX1_kindOf_38 : decode cX1_kindOf 38 = .ok (.ireturn, 1) := by decide +kernel
theorem dX1_kindOf_39 : decode cX1_kindOf 39 = .ok (.iconst 0, 1) := by decide +kernel
theorem dX1_kindOf_40 : decode cX1_kindOf 40 = .ok (.ireturn, 1) := by decide +kernel
theorem dX1_add_0 : decode cX1_add 0 = .ok (.aload_n 0, 1) := by decide +kernel
theorem dX1_add_1 : decode cX1_add 1 = .ok (.getfield 16, 3) := by decide +kernel
theorem dX1_add_4 : decode cX1_add 4 = .ok (.bipush 39, 2) := by decide +kernel
theorem dX1_add_6 : decode cX1_add 6 = .ok (.if_icmp .ge 77, 3) := by decide +kernel
theorem dX1_add_9 : decode cX1_add 9 = .ok (.aload_n 0, 1) := by decide +kernel
theorem dX1_add_10 : decode cX1_add 10 = .ok (.getfield 13, 3) := by decide +kernel
theorem dX1_add_13 : decode cX1_add 13 = .ok (.iconst 0, 1) := by decide +kernel
theorem dX1_add_14 : decode cX1_add 14 = .ok (.aaload, 1) := by decide +kernel
theorem dX1_add_15 : decode cX1_add 15 = .ok (.aload_n 0, 1) := by decide +kernel
theorem dX1_add_16 : decode cX1_add 16 = .ok (.getfield 16, 3) := by decide +kernel
theorem dX1_add_19 : decode cX1_add 19 = .ok (.iload_n 1, 1) := by decide +kernel
theorem dX1_add_20 : decode cX1_add 20 = .ok (.iastore, 1) := by decide +kernel
theorem dX1_add_21 : decode cX1_add 21 = .ok (.aload_n 0, 1) := by decide +kernel
theorem dX1_add_22 : decode cX1_add 22 = .ok (.getfield 13, 3) := by decide +kernel
theorem dX1_add_25 : decode cX1_add 25 = .ok (.iconst 1, 1) := by decide +kernel
theorem dX1_add_26 : decode cX1_add 26 = .ok (.aaload, 1) := by decide +kernel
theorem dX1_add_27 : decode cX1_add 27 = .ok (.aload_n 0, 1) := by decide +kernel
theorem dX1_add_28 : decode cX1_add 28 = .ok (.getfield 16, 3) := by decide +kernel
theorem dX1_add_31 : decode cX1_add 31 = .ok (.iload_n 2, 1) := by decide +kernel
theorem dX1_add_32 : decode cX1_add 32 = .ok (.iastore, 1) := by decide +kernel
theorem dX1_add_33 : decode cX1_add 33 = .ok (.aload_n 0, 1) := by decide +kernel
theorem dX1_add_34 : decode cX1_add 34 = .ok (.getfield 13, 3) := by decide +kernel
theorem dX1_add_37 : decode cX1_add 37 = .ok (.iconst 2, 1) := by decide +kernel
theorem dX1_add_38 : decode cX1_add 38 = .ok (.aaload, 1) := by decide +kernel
theorem dX1_add_39 : decode cX1_add 39 = .ok (.aload_n 0, 1) := by decide +kernel
theorem dX1_add_40 : decode cX1_add 40 = .ok (.getfield 16, 3) := by decide +kernel
theorem dX1_add_43 : decode cX1_add 43 = .ok (.iload_n 3, 1) := by decide +kernel
theorem dX1_add_44 : decode cX1_add 44 = .ok (.iastore, 1) := by decide +kernel
theorem dX1_add_45 : decode cX1_add 45 = .ok (.aload_n 0, 1) := by decide +kernel
theorem dX1_add_46 : decode cX1_add 46 = .ok (.getfield 13, 3) := by decide +kernel
theorem dX1_add_49 : decode cX1_add 49 = .ok (.iconst 3, 1) := by decide +kernel
theorem dX1_add_50 : decode cX1_add 50 = .ok (.aaload, 1) := by decide +kernel
theorem dX1_add_51 : decode cX1_add 51 = .ok (.aload_n 0, 1) := by decide +kernel
theorem dX1_add_52 : decode cX1_add 52 = .ok (.getfield 16, 3) := by decide +kernel
theorem dX1_add_55 : decode cX1_add 55 = .ok (.aload_n 0, 1) := by decide +kernel
theorem dX1_add_56 : decode cX1_add 56 = .ok (.getfield 56, 3) := by decide +kernel
theorem dX1_add_59 : decode cX1_add 59 = .ok (.iastore, 1) := by decide +kernel
theorem dX1_add_60 : decode cX1_add 60 = .ok (.aload_n 0, 1) := by decide +kernel
theorem dX1_add_61 : decode cX1_add 61 = .ok (.getfield 13, 3) := by decide +kernel
theorem dX1_add_64 : decode cX1_add 64 = .ok (.iconst 4, 1) := by decide +kernel
theorem dX1_add_65 : decode cX1_add 65 = .ok (.aaload, 1) := by decide +kernel
theorem dX1_add_66 : decode cX1_add 66 = .ok (.aload_n 0, 1) := by decide +kernel
theorem dX1_add_67 : decode cX1_add 67 = .ok (.getfield 16, 3) := by decide +kernel
theorem dX1_add_70 : decode cX1_add 70 = .ok (.iload 4, 2) := by decide +kernel
theorem dX1_add_72 : decode cX1_add 72 = .ok (.iastore, 1) := by decide +kernel
theorem dX1_add_73 : decode cX1_add 73 = .ok (.aload_n 0, 1) := by decide +kernel
theorem dX1_add_74 : decode cX1_add 74 = .ok (.dup, 1) := by decide +kernel
theorem dX1_add_75 : decode cX1_add 75 = .ok (.getfield 16, 3) := by decide +kernel
theorem dX1_add_78 : decode cX1_add 78 = .ok (.iconst 1, 1) := by decide +kernel
theorem dX1_add_79 : decode cX1_add 79 = .ok (.iadd, 1) := by decide +kernel
theorem dX1_add_80 : decode cX1_add 80 = .ok (.putfield 16, 3) := by decide +kernel
theorem dX1_add_83 : decode cX1_add 83 = .ok (.return_, 1) := by decide +kernel
set_option maxRecDepth 20000 in
theorem ggX2_init_J7_fill_d0a16 : GoodIn wsX2_init wsJ7_fill_d0a16 := goodIn_r _ [17] (by decide +kernel) (by decide +kernel)
set_option maxRecDepth 20000 in
theorem gX2_init_J7_fill_d0a16 : GoodIn wsX2_init (va_wsS RX2 24 yJ7_fill_d0a16 wsJ7_fill_d0a16) := goodIn_app (goodIn_of _ (by decide +kernel)) ggX2_init_J7_fill_d0a16
theorem dX2_init_0 : decode cX2_init 0 = .ok (.aload_n 0, 1) := by decide +kernel
theorem dX2_init_1 : decode cX2_init 1 = .ok (.invokespecial 5, 3) := by decide +kernel
theorem dX2_init_4 : decode cX2_init 4 = .ok (.aload_n 0, 1) := by decide +kernel
theorem dX2_init_5 : decode cX2_init 5 = .ok (.bipush 24, 2) := by decide +kernel
theorem dX2_init_7 : decode cX2_init 7 = .ok (.newarray .long, 2) := by decide +kernel
theorem dX2_init_9 : decode cX2_init 9 = .ok (.putfield 11, 3) := by decide +kernel
theorem dX2_init_12 : decode cX2_init 12 = .ok (.aload_n 0, 1) := by decide +kernel
theorem dX2_init_13 : decode cX2_init 13 = .ok (.bipush 37, 2) := by decide +kernel
theorem dX2_init_15 : decode cX2_init 15 = .ok (.newarray .int, 2) := by decide +kernel
theorem dX2_init_17 : decode cX2_init 17 = .ok (.putfield 15, 3) := by decide +kernel
theorem dX2_init_20 : decode cX2_init 20 = .ok (.aload_n 0, 1) := by decide +kernel
theorem dX2_init_21 : decode cX2_init 21 = .ok (.iconst 5, 1) := by decide +kernel
theorem dX2_init_22 : decode cX2_init 22 = .ok (.newarray .int, 2) := by decide +kernel
theorem dX2_init_24 : decode cX2_init 24 = .ok (.putfield 19, 3) := by decide +kernel
theorem dX2_init_27 : decode cX2_init 27 = .ok (.aload_n 0, 1) := by decide +kernel
theorem dX2_init_28 : decode cX2_init 28 = .ok (.getfield 11, 3) := by decide +kernel
theorem dX2_init_31 : decode cX2_init 31 = .ok (.ldc2_w 22, 3) := by decide +kernel
theorem dX2_init_34 : decode cX2_init 34 = .ok (.invokestatic 24, 3) := by decide +kernel
theorem dX2_init_37 : decode cX2_init 37 = .ok (.getstatic 30, 3) := by decide +kernel
theorem dX2_init_40 : decode cX2_init 40 = .ok (.iconst 0, 1) := by decide +kernel
theorem dX2_init_41 : decode cX2_init 41 = .ok (.aload_n 0, 1) := by decide +kernel
theorem dX2_init_42 : decode cX2_init 42 = .ok (.getfield 19, 3) := by decide +kernel
theorem dX2_init_45 : decode cX2_init 45 = .ok (.iconst 0, 1) := by decide +kernel
theorem dX2_init_46 : decode cX2_init 46 = .ok (.iconst 5, 1) := by decide +kernel
theorem dX2_init_47 : decode cX2_init 47 = .ok (.invokestatic 33, 3) := by decide +kernel
theorem dX2_init_50 : decode cX2_init 50 = .ok (.return_, 1) := by decide +kernel
theorem dX2_copyFrom_0 : decode cX2_copyFrom 0 = .ok (.aload_n 1, 1) := by decide +kernel
theorem dX2_copyFrom_1 : decode cX2_copyFrom 1 = .ok (.getfield 11, 3) := by decide +kernel
theorem dX2_copyFrom_4 : decode cX2_copyFrom 4 = .ok (.iconst 0, 1) := by decide +kernel
theorem dX2_copyFrom_5 : decode cX2_copyFrom 5 = .ok (.aload_n 0, 1) := by decide +kernel
theorem dX2_copyFrom_6 : decode cX2_copyFrom 6 = .ok (.getfield 11, 3) := by decide +kernel
theorem dX2_copyFrom_9 : decode cX2_copyFrom 9 = .ok (.iconst 0, 1) := by decide +kernel
theorem dX2_copyFrom_10 : decode cX2_copyFrom 10 = .ok (.bipush 24, 2) := by decide +kernel
theorem dX2_copyFrom_12 : decode cX2_copyFrom 12 = .ok (.invokestatic 33, 3) := by decide +kernel
theorem dX2_copyFrom_15 : decode cX2_copyFrom 15 = .ok (.aload_n 1, 1) := by decide +kernel
theorem dX2_copyFrom_16 : decode cX2_copyFrom 16 = .ok (.getfield 15, 3) := by decide +kernel
theorem dX2_copyFrom_19 : decode cX2_copyFrom 19 = .ok (.iconst 0, 1) := by decide +kernel
theorem dX2_copyFrom_20 : decode cX2_copyFrom 20 = .ok (.aload_n 0, 1) := by decide +kernel
theorem dX2_copyFrom_21 : decode cX2_copyFrom 21 = .ok (.getfield 15, 3) := by decide +kernel
theorem dX2_copyFrom_24 : decode cX2_copyFrom 24 = .ok (.iconst 0, 1) := by decide +kernel
theorem dX2_copyFrom_25 : decode cX2_copyFrom 25 = .ok (.bipush 37, 2) := by decide +kernel
theorem dX2_copyFrom_27 : decode cX2_copyFrom 27 = .ok (.invokestatic 33, 3) := by decide +kernel
theorem dX2_copyFrom_30 : decode cX2_copyFrom 30 = .ok (.aload_n 1, 1) := by decide +kernel
theorem dX2_copyFrom_31 : decode cX2_copyFrom 31 = .ok (.getfield 19, 3) := by decide +kernel
theorem dX2_copyFrom_34 : decode cX2_copyFrom 34 = .ok (.iconst 0, 1) := by decide +kernel
theorem dX2_copyFrom_35 : decode cX2_copyFrom 35 = .ok (.aload_n 0, 1) := by decide +kernel
theorem dX2_copyFrom_36 : decode cX2_copyFrom 36 = .ok (.getfield 19, 3) := by decide +kernel
theorem dX2_copyFrom_39 : decode cX2_copyFrom 39 = .ok (.iconst 0, 1) := by decide +kernel
theorem dX2_copyFrom_40 : decode cX2_copyFrom 40 = .ok (.iconst 5, 1) := by decide +kernel
theorem dX2_copyFrom_41 : decode cX2_copyFrom 41 = .ok (.invokestatic 33, 3) := by decide +kernel
theorem dX2_copyFrom_44 : decode cX2_copyFrom 44 = .ok (.aload_n 0, 1) := by decide +kernel
theorem dX2_copyFrom_45 : decode cX2_copyFrom 45 = .ok (.aload_n 1, 1) := by decide +kernel
theorem dX2_copyFrom_46 : decode cX2_copyFrom 46 = .ok (.getfield 39, 3) := by decide +kernel
theorem dX2_copyFrom_49 : decode cX2_copyFrom 49 = .ok (.putfield 39, 3) := by decide +kernel
theorem dX2_copyFrom_52 : decode cX2_copyFrom 52 = .ok (.aload_n 0, 1) := by decide +kernel
theorem dX2_copyFrom_53 : decode cX2_copyFrom 53 = .ok (.aload_n 1, 1) := by decide +kernel
theorem dX2_copyFrom_54 : decode cX2_copyFrom 54 = .ok (.getfield 43, 3) := by decide +kernel
theorem dX2_copyFrom_57 : decode cX2_copyFrom 57 = .ok (.putfield 43, 3) := by decide +kernel
theorem dX2_copyFrom_60 : decode cX2_copyFrom 60 = .ok (.return_, 1) := by decide +kernel
theorem dX2_end_0 : decode cX2_end 0 = .ok (.aload_n 0, 1) := by decide +kernel
theorem dX2_end_1 : decode cX2_end 1 = .ok (.getfield 39, 3) := by decide +kernel
theorem dX2_end_4 : decode cX2_end 4 = .ok (.ireturn, 1) := by decide +kernel
theorem dX2_wordCount_0 : decode cX2_wordCount 0 = .ok (.aload_n 0, 1) := by decide +kernel
theorem dX2_wordCount_1 : decode cX2_wordCount 1 = .ok (.getfield 43, 3) := by decide +kernel
theorem dX2_wordCount_4 : decode cX2_wordCount 4 = .ok (.ireturn, 1) := by decide +kernel
theorem dX2_setting_0 : decode cX2_setting 0 = .ok (.iload_n 1, 1) := by decide +kernel
theorem dX2_setting_1 : decode cX2_setting 1 = .ok (.ifCond .lt 8, 3) := by decide +kernel
theorem dX2_setting_4 : decode cX2_setting 4 = .ok (.iload_n 1, 1) := by decide +kernel
theorem dX2_setting_5 : decode cX2_setting 5 = .ok (.iconst 5, 1) := by decide +kernel
theorem dX2_setting_6 : decode cX2_setting 6 = .ok (.if_icmp .lt 7, 3) := by decide +kernel
theorem dX2_setting_9 : decode cX2_setting 9 = .ok (.iconst (-1), 1) := by decide +kernel
theorem dX2_setting_10 : decode cX2_setting 10 = .ok (.goto 9, 3) := by decide +kernel
theorem dX2_setting_13 : decode cX2_setting 13 = .ok (.aload_n 0, 1) := by decide +kernel
theorem dX2_setting_14 : decode cX2_setting 14 = .ok (.getfield 19, 3) := by decide +kernel
theorem dX2_setting_17 : decode cX2_setting 17 = .ok (.iload_n 1, 1) := by decide +kernel
theorem dX2_setting_18 : decode cX2_setting 18 = .ok (.iaload, 1) := by decide +kernel
theorem dX2_setting_19 : decode cX2_setting 19 = .ok (.ireturn, 1) := by decide +kernel
theorem dX2_wordOfRank_0 : decode cX2_wordOfRank 0 = .ok (.iload_n 1, 1) := by decide +kernel
theorem dX2_wordOfRank_1 : decode cX2_wordOfRank 1 = .ok (.ifCond .lt 11, 3) := by decide +kernel
theorem dX2_wordOfRank_4 : decode cX2_wordOfRank 4 = .ok (.iload_n 1, 1) := by decide +kernel
theorem dX2_wordOfRank_5 : decode cX2_wordOfRank 5 = .ok (.aload_n 0, 1) := by decide +kernel
theorem dX2_wordOfRank_6 : decode cX2_wordOfRank 6 = .ok (.getfield 43, 3) := by decide +kernel
theorem dX2_wordOfRank_9 : decode cX2_wordOfRank 9 = .ok (.if_icmp .lt 8, 3) := by decide +kernel
theorem dX2_wordOfRank_12 : decode cX2_wordOfRank 12 = .ok (.bipush (-5), 2) := by decide +kernel
theorem dX2_wordOfRank_14 : decode cX2_wordOfRank 14 = .ok (.goto 9, 3) := by decide +kernel
theorem dX2_wordOfRank_17 : decode cX2_wordOfRank 17 = .ok (.aload_n 0, 1) := by decide +kernel
theorem dX2_wordOfRank_18 : decode cX2_wordOfRank 18 = .ok (.getfield 15, 3) := by decide +kernel
theorem dX2_wordOfRank_21 : decode cX2_wordOfRank 21 = .ok (.iload_n 1, 1) := by decide +kernel
theorem dX2_wordOfRank_22 : decode cX2_wordOfRank 22 = .ok (.iaload, 1) := by decide +kernel
theorem dX2_wordOfRank_23 : decode cX2_wordOfRank 23 = .ok (.ireturn, 1) := by decide +kernel
theorem dX2_change_0 : decode cX2_change 0 = .ok (.iload_n 1, 1) := by decide +kernel
theorem dX2_change_1 : decode cX2_change 1 = .ok (.ifCond .lt 15, 3) := by decide +kernel
theorem dX2_change_4 : decode cX2_change 4 = .ok (.iload_n 1, 1) := by decide +kernel
theorem dX2_change_5 : decode cX2_change 5 = .ok (.iconst 5, 1) := by decide +kernel
theorem dX2_change_6 : decode cX2_change 6 = .ok (.if_icmp .ge 10, 3) := by decide +kernel
theorem dX2_change_9 : decode cX2_change 9 = .ok (.aload_n 0, 1) := by decide +kernel
theorem dX2_change_10 : decode cX2_change 10 = .ok (.getfield 19, 3) := by decide +kernel
theorem dX2_change_13 : decode cX2_change 13 = .ok (.iload_n 1, 1) := by decide +kernel
theorem dX2_change_14 : decode cX2_change 14 = .ok (.iload_n 2, 1) := by decide +kernel
theorem dX2_change_15 : decode cX2_change 15 = .ok (.iastore, 1) := by decide +kernel
theorem dX2_change_16 : decode cX2_change 16 = .ok (.return_, 1) := by decide +kernel
set_option maxRecDepth 20000 in
theorem ggX2_clearWire_J7_fill_d0a16 : GoodIn wsX2_clearWire wsJ7_fill_d0a16 := goodIn_r _ [8] (by decide +kernel) (by decide +kernel)
set_option maxRecDepth 20000 in
theorem gX2_clearWire_J7_fill_d0a16 : GoodIn wsX2_clearWire (va_wsS RX2 24 yJ7_fill_d0a16 wsJ7_fill_d0a16) := goodIn_app (goodIn_of _ (by decide +kernel)) ggX2_clearWire_J7_fill_d0a16
theorem dX2_clearWire_0 : decode cX2_clearWire 0 = .ok (.aload_n 0, 1) := by decide +kernel
theorem dX2_clearWire_1 : decode cX2_clearWire 1 = .ok (.getfield 11, 3) := by decide +kernel
theorem dX2_clearWire_4 : decode cX2_clearWire 4 = .ok (.ldc2_w 22, 3) := by decide +kernel
theorem dX2_clearWire_7 : decode cX2_clearWire 7 = .ok (.invokestatic 24, 3) := by decide +kernel
theorem dX2_clearWire_10 : decode cX2_clearWire 10 = .ok (.aload_n 0, 1) := by decide +kernel
theorem dX2_clearWire_11 : decode cX2_clearWire 11 = .ok (.iconst 0, 1) := by decide +kernel
theorem dX2_clearWire_12 : decode cX2_clearWire 12 = .ok (.putfield 39, 3) := by decide +kernel
theorem dX2_clearWire_15 : decode cX2_clearWire 15 = .ok (.aload_n 0, 1) := by decide +kernel
theorem dX2_clearWire_16 : decode cX2_clearWire 16 = .ok (.iconst 0, 1) := by decide +kernel
theorem dX2_clearWire_17 : decode cX2_clearWire 17 = .ok (.putfield 43, 3) := by decide +kernel
theorem dX2_clearWire_20 : decode cX2_clearWire 20 = .ok (.return_, 1) := by decide +kernel
theorem dX2_hasRoom_0 : decode cX2_hasRoom 0 = .ok (.iload_n 1, 1) := by decide +kernel
theorem dX2_hasRoom_1 : decode cX2_hasRoom 1 = .ok (.sipush 1500, 3) := by decide +kernel
theorem dX2_hasRoom_4 : decode cX2_hasRoom 4 = .ok (.aload_n 0, 1) := by decide +kernel
theorem dX2_hasRoom_5 : decode cX2_hasRoom 5 = .ok (.getfield 39, 3) := by decide +kernel
theorem dX2_hasRoom_8 : decode cX2_hasRoom 8 = .ok (.isub, 1) := by decide +kernel
theorem dX2_hasRoom_9 : decode cX2_hasRoom 9 = .ok (.if_icmp .gt 7, 3) := by decide +kernel
theorem dX2_hasRoom_12 : decode cX2_hasRoom 12 = .ok (.iconst 1, 1) := by decide +kernel
theorem dX2_hasRoom_13 : decode cX2_hasRoom 13 = .ok (.goto 4, 3) := by decide +kernel
theorem dX2_hasRoom_16 : decode cX2_hasRoom 16 = .ok (.iconst 0, 1) := by decide +kernel
theorem dX2_hasRoom_17 : decode cX2_hasRoom 17 = .ok (.ireturn, 1) := by decide +kernel
set_option maxRecDepth 20000 in
theorem ggX2_ticksOfWord_X2_bitsOfWord : GoodIn wsX2_ticksOfWord wsX2_bitsOfWord := goodIn_r _ [6, 1, 7, 8, 9, 10, 11] (by decide +kernel) (by decide +kernel)
set_option maxRecDepth 20000 in
theorem gX2_ticksOfWord_X2_bitsOfWord : GoodIn wsX2_ticksOfWord (wsV RX2 46 RX2 yX2_bitsOfWord wsX2_bitsOfWord) := goodIn_app (goodIn_of _ (by decide +kernel)) ggX2_ticksOfWord_X2_bitsOfWord
theorem dX2_ticksOfWord_0 : decode cX2_ticksOfWord 0 = .ok (.aload_n 0, 1) := by decide +kernel
theorem dX2_ticksOfWord_1 : decode cX2_ticksOfWord 1 = .ok (.invokevirtual 46, 3) := by decide +kernel
theorem dX2_ticksOfWord_4 : decode cX2_ticksOfWord 4 = .ok (.aload_n 0, 1) := by decide +kernel
theorem dX2_ticksOfWord_5 : decode cX2_ticksOfWord 5 = .ok (.getfield 19, 3) := by decide +kernel
theorem dX2_ticksOfWord_8 : decode cX2_ticksOfWord 8 = .ok (.iconst 0, 1) := by decide +kernel
theorem dX2_ticksOfWord_9 : decode cX2_ticksOfWord 9 = .ok (.iaload, 1) := by decide +kernel
theorem dX2_ticksOfWord_10 : decode cX2_ticksOfWord 10 = .ok (.imul, 1) := by decide +kernel
theorem dX2_ticksOfWord_11 : decode cX2_ticksOfWord 11 = .ok (.bipush 16, 2) := by decide +kernel
theorem dX2_ticksOfWord_13 : decode cX2_ticksOfWord 13 = .ok (.idiv, 1) := by decide +kernel
theorem dX2_ticksOfWord_14 : decode cX2_ticksOfWord 14 = .ok (.ireturn, 1) := by decide +kernel
set_option maxRecDepth 20000 in
theorem ggX2_addWord_X2_ticksOfWord : GoodIn wsX2_addWord wsX2_ticksOfWord := goodIn_r _ [9, 2, 10, 11, 12, 8, 13, 42, 43, 44, 45, 46] (by decide +kernel) (by decide +kernel)
set_option maxRecDepth 20000 in
theorem gX2_addWord_X2_ticksOfWord : GoodIn wsX2_addWord (wsV RX2 50 RX2 yX2_ticksOfWord wsX2_ticksOfWord) := goodIn_app (goodIn_of _ (by decide +kernel)) ggX2_addWord_X2_ticksOfWord
set_option maxRecDepth 20000 in
theorem ggX2_addWord_X2_hasRoom : GoodIn wsX2_addWord wsX2_hasRoom := goodIn_r _ [17, 3, 42, 43, 44, 45, 46] (by decide +kernel) (by decide +kernel)
set_option maxRecDepth 20000 in
theorem gX2_addWord_X2_hasRoom : GoodIn wsX2_addWord (wsV RX2 53 RX2 yX2_hasRoom wsX2_hasRoom) := goodIn_app (goodIn_of _ (by decide +kernel)) ggX2_addWord_X2_hasRoom
set_option maxRecDepth 20000 in
theorem ggX2_addWord_X2_bitsOf : GoodIn wsX2_addWord wsX2_bitsOf := goodIn_r _ [21, 2, 22, 23, 24, 25, 26, 27, 28, 29, 30, 31, 42, 43, 44, 45, 46] (by decide +kernel) (by decide +kernel)
set_option maxRecDepth 20000 in
theorem gX2_addWord_X2_bitsOf : GoodIn wsX2_addWord (wsV RX2 57 RX2 yX2_bitsOf wsX2_bitsOf) := goodIn_app (goodIn_of _ (by decide +kernel)) ggX2_addWord_X2_bitsOf
set_option maxRecDepth 20000 in
theorem ggX2_addWord_X2_bitsOfWord : GoodIn wsX2_addWord wsX2_bitsOfWord := goodIn_r _ [13, 2, 42, 43, 44, 45, 46] (by decide +kernel) (by decide +kernel)
set_option maxRecDepth 20000 in
theorem gX2_addWord_X2_bitsOfWord : GoodIn wsX2_addWord (wsV RX2 46 RX2 yX2_bitsOfWord wsX2_bitsOfWord) := goodIn_app (goodIn_of _ (by decide +kernel)) ggX2_addWord_X2_bitsOfWord
set_option maxRecDepth 20000 in
theorem ggX2_addWord_X2_putLow : GoodIn wsX2_addWord wsX2_putLow := goodIn_r _ [35, 36, 37, 38, 39, 40, 41, 42, 43, 44, 45, 46] (by decide +kernel) (by decide +kernel)
set_option maxRecDepth 20000 in
theorem gX2_addWord_X2_putLow : GoodIn wsX2_addWord (wsV RX2 61 RX2 yX2_putLow wsX2_putLow) := goodIn_app (goodIn_of _ (by decide +kernel)) ggX2_addWord_X2_putLow
theorem dX2_addWord_0 : decode cX2_addWord 0 = .ok (.aload_n 0, 1) := by decide +kernel
theorem dX2_addWord_1 : decode cX2_addWord 1 = .ok (.invokevirtual 50, 3) := by decide +kernel
theorem dX2_addWord_4 : decode cX2_addWord 4 = .ok (.istore_n 2, 1) := by decide +kernel
theorem dX2_addWord_5 : decode cX2_addWord 5 = .ok (.aload_n 0, 1) := by decide +kernel
theorem dX2_addWord_6 : decode cX2_addWord 6 = .ok (.iload_n 2, 1) := by decide +kernel
theorem dX2_addWord_7 : decode cX2_addWord 7 = .ok (.invokevirtual 53, 3) := by decide +kernel
theorem dX2_addWord_10 : decode cX2_addWord 10 = .ok (.ifCond .eq 12, 3) := by decide +kernel
theorem dX2_addWord_13 : decode cX2_addWord 13 = .ok (.aload_n 0, 1) := by decide +kernel
theorem dX2_addWord_14 : decode cX2_addWord 14 = .ok (.getfield 43, 3) := by decide +kernel
theorem dX2_addWord_17 : decode cX2_addWord 17 = .ok (.bipush 37, 2) := by decide +kernel
theorem dX2_addWord_19 : decode cX2_addWord 19 = .ok (.if_icmp .lt 5, 3) := by decide +kernel
theorem dX2_addWord_22 : decode cX2_addWord 22 = .ok (.iconst 0, 1) := by decide +kernel
theorem dX2_addWord_23 : decode cX2_addWord 23 = .ok (.ireturn, 1) := by decide +kernel
theorem dX2_addWord_24 : decode cX2_addWord 24 = .ok (.aload_n 0, 1) := by decide +kernel
theorem dX2_addWord_25 : decode cX2_addWord 25 = .ok (.iload_n 1, 1) := by decide +kernel
theorem dX2_addWord_26 : decode cX2_addWord 26 = .ok (.invokevirtual 57, 3) := by decide +kernel
theorem dX2_addWord_29 : decode cX2_addWord 29 = .ok (.istore_n 3, 1) := by decide +kernel
theorem dX2_addWord_30 : decode cX2_addWord 30 = .ok (.aload_n 0, 1) := by decide +kernel
theorem dX2_addWord_31 : decode cX2_addWord 31 = .ok (.getfield 19, 3) := by decide +kernel
theorem dX2_addWord_34 : decode cX2_addWord 34 = .ok (.iconst 0, 1) := by decide +kernel
theorem dX2_addWord_35 : decode cX2_addWord 35 = .ok (.iaload, 1) := by decide +kernel
theorem dX2_addWord_36 : decode cX2_addWord 36 = .ok (.istore 4, 2) := by decide +kernel
theorem dX2_addWord_38 : decode cX2_addWord 38 = .ok (.aload_n 0, 1) := by decide +kernel
theorem dX2_addWord_39 : decode cX2_addWord 39 = .ok (.invokevirtual 46, 3) := by decide +kernel
theorem dX2_addWord_42 : decode cX2_addWord 42 = .ok (.istore 5, 2) := by decide +kernel
theorem dX2_addWord_44 : decode cX2_addWord 44 = .ok (.iconst 0, 1) := by decide +kernel
theorem dX2_addWord_45 : decode cX2_addWord 45 = .ok (.istore 6, 2) := by decide +kernel
theorem dX2_addWord_47 : decode cX2_addWord 47 = .ok (.iload 6, 2) := by decide +kernel
theorem dX2_addWord_49 : decode cX2_addWord 49 = .ok (.iload 5, 2) := by decide +kernel
theorem dX2_addWord_51 : decode cX2_addWord 51 = .ok (.if_icmp .ge 50, 3) := by decide +kernel
theorem dX2_addWord_54 : decode cX2_addWord 54 = .ok (.iload_n 3, 1) := by decide +kernel
theorem dX2_addWord_55 : decode cX2_addWord 55 = .ok (.iload 6, 2) := by decide +kernel
theorem dX2_addWord_57 : decode cX2_addWord 57 = .ok (.ishr, 1) := by decide +kernel
theorem dX2_addWord_58 : decode cX2_addWord 58 = .ok (.iconst 1, 1) := by decide +kernel
theorem dX2_addWord_59 : decode cX2_addWord 59 = .ok (.iand, 1) := by decide +kernel
theorem dX2_addWord_60 : decode cX2_addWord 60 = .ok (.ifCond .ne 35, 3) := by decide +kernel
theorem dX2_addWord_63 : decode cX2_addWord 63 = .ok (.aload_n 0, 1) := by decide +kernel
theorem dX2_addWord_64 : decode cX2_addWord 64 = .ok (.aload_n 0, 1) := by decide +kernel
theorem dX2_addWord_65 : decode cX2_addWord 65 = .ok (.getfield 39, 3) := by decide +kernel
theorem dX2_addWord_68 : decode cX2_addWord 68 = .ok (.iload 6, 2) := by decide +kernel
theorem dX2_addWord_70 : decode cX2_addWord 70 = .ok (.iload 4, 2) := by decide +kernel
theorem dX2_addWord_72 : decode cX2_addWord 72 = .ok (.imul, 1) := by decide +kernel
theorem dX2_addWord_73 : decode cX2_addWord 73 = .ok (.bipush 16, 2) := by decide +kernel
theorem dX2_addWord_75 : decode cX2_addWord 75 = .ok (.idiv, 1) := by decide +kernel
theorem dX2_addWord_76 : decode cX2_addWord 76 = .ok (.iadd, 1) := by decide +kernel
theorem dX2_addWord_77 : decode cX2_addWord 77 = .ok (.aload_n 0, 1) := by decide +kernel
theorem dX2_addWord_78 : decode cX2_addWord 78 = .ok (.getfield 39, 3) := by decide +kernel
theorem dX2_addWord_81 : decode cX2_addWord 81 = .ok (.iload 6, 2) := by decide +kernel
theorem dX2_addWord_83 : decode cX2_addWord 83 = .ok (.iconst 1, 1) := by decide +kernel
theorem dX2_addWord_84 : decode cX2_addWord 84 = .ok (.iadd, 1) := by decide +kernel
theorem dX2_addWord_85 : decode cX2_addWord 85 = .ok (.iload 4, 2) := by decide +kernel
theorem dX2_addWord_87 : decode cX2_addWord 87 = .ok (.imul, 1) := by decide +kernel
theorem dX2_addWord_88 : decode cX2_addWord 88 = .ok (.bipush 16, 2) := by decide +kernel
theorem dX2_addWord_90 : decode cX2_addWord 90 = .ok (.idiv, 1) := by decide +kernel
theorem dX2_addWord_91 : decode cX2_addWord 91 = .ok (.iadd, 1) := by decide +kernel
theorem dX2_addWord_92 : decode cX2_addWord 92 = .ok (.invokevirtual 61, 3) := by decide +kernel
theorem dX2_addWord_95 : decode cX2_addWord 95 = .ok (.iinc 6 1, 3) := by decide +kernel
theorem dX2_addWord_98 : decode cX2_addWord 98 = .ok (.goto (-51), 3) := by decide +kernel
theorem dX2_addWord_101 : decode cX2_addWord 101 = .ok (.aload_n 0, 1) := by decide +kernel
theorem dX2_addWord_102 : decode cX2_addWord 102 = .ok (.getfield 15, 3) := by decide +kernel
theorem dX2_addWord_105 : decode cX2_addWord 105 = .ok (.aload_n 0, 1) := by decide +kernel
theorem dX2_addWord_106 : decode cX2_addWord 106 = .ok (.getfield 43, 3) := by decide +kernel
theorem dX2_addWord_109 : decode cX2_addWord 109 = .ok (.iload_n 1, 1) := by decide +kernel
theorem dX2_addWord_110 : decode cX2_addWord 110 = .ok (.iastore, 1) := by decide +kernel
theorem dX2_addWord_111 : decode cX2_addWord 111 = .ok (.aload_n 0, 1) := by decide +kernel
theorem dX2_addWord_112 : decode cX2_addWord 112 = .ok (.dup, 1) := by decide +kernel
theorem dX2_addWord_113 : decode cX2_addWord 113 = .ok (.getfield 43, 3) := by decide +kernel
theorem dX2_addWord_116 : decode cX2_addWord 116 = .ok (.iconst 1, 1) := by decide +kernel
theorem dX2_addWord_117 : decode cX2_addWord 117 = .ok (.iadd, 1) := by decide +kernel
theorem dX2_addWord_118 : decode cX2_addWord 118 = .ok (.putfield 43, 3) := by decide +kernel
theorem dX2_addWord_121 : decode cX2_addWord 121 = .ok (.aload_n 0, 1) := by decide +kernel
theorem dX2_addWord_122 : decode cX2_addWord 122 = .ok (.dup, 1) := by decide +kernel
theorem dX2_addWord_123 : decode cX2_addWord 123 = .ok (.getfield 39, 3) := by decide +kernel
theorem dX2_addWord_126 : decode cX2_addWord 126 = .ok (.iload_n 2, 1) := by decide +kernel
theorem dX2_addWord_127 : decode cX2_addWord 127 = .ok (.iadd, 1) := by decide +kernel
theorem dX2_addWord_128 : decode cX2_addWord 128 = .ok (.putfield 39, 3) := by decide +kernel
theorem dX2_addWord_131 : decode cX2_addWord 131 = .ok (.iconst 1, 1) := by decide +kernel
theorem dX2_addWord_132 : decode cX2_addWord 132 = .ok (.ireturn, 1) := by decide +kernel
set_option maxRecDepth 20000 in
theorem ggX2_addStretch_X2_hasRoom : GoodIn wsX2_addStretch wsX2_hasRoom := goodIn_r _ [6, 1, 17, 18, 19, 20, 21] (by decide +kernel) (by decide +kernel)
set_option maxRecDepth 20000 in
theorem gX2_addStretch_X2_hasRoom : GoodIn wsX2_addStretch (wsV RX2 53 RX2 yX2_hasRoom wsX2_hasRoom) := goodIn_app (goodIn_of _ (by decide +kernel)) ggX2_addStretch_X2_hasRoom
set_option maxRecDepth 20000 in
theorem ggX2_addStretch_X2_putLow : GoodIn wsX2_addStretch wsX2_putLow := goodIn_r _ [10, 11, 12, 13, 14, 15, 16, 17, 18, 19, 20, 21] (by decide +kernel) (by decide +kernel)
set_option maxRecDepth 20000 in
theorem gX2_addStretch_X2_putLow : GoodIn wsX2_addStretch (wsV RX2 61 RX2 yX2_putLow wsX2_putLow) := goodIn_app (goodIn_of _ (by decide +kernel)) ggX2_addStretch_X2_putLow
theorem dX2_addStretch_0 : decode cX2_addStretch 0 = .ok (.aload_n 0, 1) := by decide +kernel
theorem dX2_addStretch_1 : decode cX2_addStretch 1 = .ok (.iload_n 2, 1) := by decide +kernel
theorem dX2_addStretch_2 : decode cX2_addStretch 2 = .ok (.invokevirtual 53, 3) := by decide +kernel
theorem dX2_addStretch_5 : decode cX2_addStretch 5 = .ok (.ifCond .ne 5, 3) := by decide +kernel
theorem dX2_addStretch_8 : decode cX2_addStretch 8 = .ok (.iconst 0, 1) := by decide +kernel
theorem dX2_addStretch_9 : decode cX2_addStretch 9 = .ok (.ireturn, 1) := by decide +kernel
theorem dX2_addStretch_10 : decode cX2_addStretch 10 = .ok (.iload_n 1, 1) := by decide +kernel
theorem dX2_addStretch_11 : decode cX2_addStretch 11 = .ok (.ifCond .ne 17, 3) := by decide +kernel
theorem dX2_addStretch_14 : decode cX2_addStretch 14 = .ok (.aload_n 0, 1) := by decide +kernel
theorem dX2_addStretch_15 : decode cX2_addStretch 15 = .ok (.aload_n 0, 1) := by decide +kernel
theorem dX2_addStretch_16 : decode cX2_addStretch 16 = .ok (.getfield 39, 3) := by decide +kernel
theorem dX2_addStretch_19 : decode cX2_addStretch 19 = .ok (.aload_n 0, 1) := by decide +kernel
theorem dX2_addStretch_20 : decode cX2_addStretch 20 = .ok (.getfield 39, 3) := by decide +kernel
theorem dX2_addStretch_23 : decode cX2_addStretch 23 = .ok (.iload_n 2, 1) := by decide +kernel
theorem dX2_addStretch_24 : decode cX2_addStretch 24 = .ok (.iadd, 1) := by decide +kernel
theorem dX2_addStretch_25 : decode cX2_addStretch 25 = .ok (.invokevirtual 61, 3) := by decide +kernel
theorem dX2_addStretch_28 : decode cX2_addStretch 28 = .ok (.aload_n 0, 1) := by decide +kernel
theorem dX2_addStretch_29 : decode cX2_addStretch 29 = .ok (.dup, 1) := by decide +kernel
theorem dX2_addStretch_30 : decode cX2_addStretch 30 = .ok (.getfield 39, 3) := by decide +kernel
theorem dX2_addStretch_33 : decode cX2_addStretch 33 = .ok (.iload_n 2, 1) := by decide +kernel
theorem dX2_addStretch_34 : decode cX2_addStretch 34 = .ok (.iadd, 1) := by decide +kernel
theorem dX2_addStretch_35 : decode cX2_addStretch 35 = .ok (.putfield 39, 3) := by decide +kernel
theorem dX2_addStretch_38 : decode cX2_addStretch 38 = .ok (.iconst 1, 1) := by decide +kernel
theorem dX2_addStretch_39 : decode cX2_addStretch 39 = .ok (.ireturn, 1) := by decide +kernel
set_option maxRecDepth 20000 in
theorem ggX2_flip_X2_levelAt : GoodIn wsX2_flip wsX2_levelAt := goodIn_r _ [11, 5, 6, 12, 13, 14, 15, 16] (by decide +kernel) (by decide +kernel)
set_option maxRecDepth 20000 in
theorem gX2_flip_X2_levelAt : GoodIn wsX2_flip (wsV RX2 71 RX2 yX2_levelAt wsX2_levelAt) := goodIn_app (goodIn_of _ (by decide +kernel)) ggX2_flip_X2_levelAt
theorem dX2_flip_0 : decode cX2_flip 0 = .ok (.iconst 0, 1) := by decide +kernel
theorem dX2_flip_1 : decode cX2_flip 1 = .ok (.istore_n 3, 1) := by decide +kernel
theorem dX2_flip_2 : decode cX2_flip 2 = .ok (.iload_n 1, 1) := by decide +kernel
theorem dX2_flip_3 : decode cX2_flip 3 = .ok (.iconst 0, 1) := by decide +kernel
theorem dX2_flip_4 : decode cX2_flip 4 = .ok (.invokestatic 65, 3) := by decide +kernel
theorem dX2_flip_7 : decode cX2_flip 7 = .ok (.istore 4, 2) := by decide +kernel
theorem dX2_flip_9 : decode cX2_flip 9 = .ok (.iload 4, 2) := by decide +kernel
theorem dX2_flip_11 : decode cX2_flip 11 = .ok (.iload_n 1, 1) := by decide +kernel
theorem dX2_flip_12 : decode cX2_flip 12 = .ok (.iload_n 2, 1) := by decide +kernel
theorem dX2_flip_13 : decode cX2_flip 13 = .ok (.iadd, 1) := by decide +kernel
theorem dX2_flip_14 : decode cX2_flip 14 = .ok (.if_icmp .ge 47, 3) := by decide +kernel
theorem dX2_flip_17 : decode cX2_flip 17 = .ok (.iload 4, 2) := by decide +kernel
theorem dX2_flip_19 : decode cX2_flip 19 = .ok (.aload_n 0, 1) := by decide +kernel
theorem dX2_flip_20 : decode cX2_flip 20 = .ok (.getfield 39, 3) := by decide +kernel
theorem dX2_flip_23 : decode cX2_flip 23 = .ok (.if_icmp .ge 38, 3) := by decide +kernel
theorem dX2_flip_26 : decode cX2_flip 26 = .ok (.aload_n 0, 1) := by decide +kernel
theorem dX2_flip_27 : decode cX2_flip 27 = .ok (.getfield 11, 3) := by decide +kernel
theorem dX2_flip_30 : decode cX2_flip 30 = .ok (.iload 4, 2) := by decide +kernel
theorem dX2_flip_32 : decode cX2_flip 32 = .ok (.bipush 64, 2) := by decide +kernel
theorem dX2_flip_34 : decode cX2_flip 34 = .ok (.idiv, 1) := by decide +kernel
theorem dX2_flip_35 : decode cX2_flip 35 = .ok (.dup2, 1) := by decide +kernel
theorem dX2_flip_36 : decode cX2_flip 36 = .ok (.laload, 1) := by decide +kernel
theorem dX2_flip_37 : decode cX2_flip 37 = .ok (.lconst 1, 1) := by decide +kernel
theorem dX2_flip_38 : decode cX2_flip 38 = .ok (.iload 4, 2) := by decide +kernel
theorem dX2_flip_40 : decode cX2_flip 40 = .ok (.bipush 64, 2) := by decide +kernel
theorem dX2_flip_42 : decode cX2_flip 42 = .ok (.irem, 1) := by decide +kernel
theorem dX2_flip_43 : decode cX2_flip 43 = .ok (.lshl, 1) := by decide +kernel
theorem dX2_flip_44 : decode cX2_flip 44 = .ok (.lxor, 1) := by decide +kernel
theorem dX2_flip_45 : decode cX2_flip 45 = .ok (.lastore, 1) := by decide +kernel
theorem dX2_flip_46 : decode cX2_flip 46 = .ok (.iload_n 3, 1) := by decide +kernel
theorem dX2_flip_47 : decode cX2_flip 47 = .ok (.aload_n 0, 1) := by decide +kernel
theorem dX2_flip_48 : decode cX2_flip 48 = .ok (.iload 4, 2) := by decide +kernel
theorem dX2_flip_50 : decode cX2_flip 50 = .ok (.invokevirtual 71, 3) := by decide +kernel
theorem dX2_flip_53 : decode cX2_flip 53 = .ok (.iadd, 1) := by decide +kernel
theorem dX2_flip_54 : decode cX2_flip 54 = .ok (.istore_n 3, 1) := by decide +kernel
theorem dX2_flip_55 : decode cX2_flip 55 = .ok (.iinc 4 1, 3) := by decide +kernel
theorem dX2_flip_58 : decode cX2_flip 58 = .ok (.goto (-49), 3) := by decide +kernel
theorem dX2_flip_61 : decode cX2_flip 61 = .ok (.iload_n 3, 1) := by decide +kernel
theorem dX2_flip_62 : decode cX2_flip 62 = .ok (.ireturn, 1) := by decide +kernel
theorem dX2_levelAt_0 : decode cX2_levelAt 0 = .ok (.iload_n 1, 1) := by decide +kernel
theorem dX2_levelAt_1 : decode cX2_levelAt 1 = .ok (.ifCond .lt 11, 3) := by decide +kernel
theorem dX2_levelAt_4 : decode cX2_levelAt 4 = .ok (.iload_n 1, 1) := by decide +kernel
theorem dX2_levelAt_5 : decode cX2_levelAt 5 = .ok (.aload_n 0, 1) := by decide +kernel
theorem dX2_levelAt_6 : decode cX2_levelAt 6 = .ok (.getfield 39, 3) := by decide +kernel
theorem dX2_levelAt_9 : decode cX2_levelAt 9 = .ok (.if_icmp .lt 5, 3) := by decide +kernel
theorem dX2_levelAt_12 : decode cX2_levelAt 12 = .ok (.iconst 1, 1) := by decide +kernel
theorem dX2_levelAt_13 : decode cX2_levelAt 13 = .ok (.ireturn, 1) := by decide +kernel
theorem dX2_levelAt_14 : decode cX2_levelAt 14 = .ok (.aload_n 0, 1) := by decide +kernel
theorem dX2_levelAt_15 : decode cX2_levelAt 15 = .ok (.getfield 11, 3) := by decide +kernel
theorem dX2_levelAt_18 : decode cX2_levelAt 18 = .ok (.iload_n 1, 1) := by decide +kernel
theorem dX2_levelAt_19 : decode cX2_levelAt 19 = .ok (.bipush 64, 2) := by decide +kernel
theorem dX2_levelAt_21 : decode cX2_levelAt 21 = .ok (.idiv, 1) := by decide +kernel
theorem dX2_levelAt_22 : decode cX2_levelAt 22 = .ok (.laload, 1) := by decide +kernel
theorem dX2_levelAt_23 : decode cX2_levelAt 23 = .ok (.iload_n 1, 1) := by decide +kernel
theorem dX2_levelAt_24 : decode cX2_levelAt 24 = .ok (.bipush 64, 2) := by decide +kernel
theorem dX2_levelAt_26 : decode cX2_levelAt 26 = .ok (.irem, 1) := by decide +kernel
theorem dX2_levelAt_27 : decode cX2_levelAt 27 = .ok (.lushr, 1) := by decide +kernel
theorem dX2_levelAt_28 : decode cX2_levelAt 28 = .ok (.lconst 1, 1) := by decide +kernel
theorem dX2_levelAt_29 : decode cX2_levelAt 29 = .ok (.land, 1) := by decide +kernel
theorem dX2_levelAt_30 : decode cX2_levelAt 30 = .ok (.l2i, 1) := by decide +kernel
theorem dX2_levelAt_31 : decode cX2_levelAt 31 = .ok (.ireturn, 1) := by decide +kernel
set_option maxRecDepth 20000 in
theorem ggX2_nextFall_X2_fallsIn : GoodIn wsX2_nextFall wsX2_fallsIn := goodIn_r _ [10, 11, 12, 23, 24, 25, 26, 27] (by decide +kernel) (by decide +kernel)
set_option maxRecDepth 20000 in
theorem gX2_nextFall_X2_fallsIn : GoodIn wsX2_nextFall (wsV RX2 74 RX2 yX2_fallsIn wsX2_fallsIn) := goodIn_app (goodIn_of _ (by decide +kernel)) ggX2_nextFall_X2_fallsIn
set_option maxRecDepth 20000 in
theorem ggX2_nextFall_J13_bitCount_95d88 : GoodIn wsX2_nextFall wsJ13_bitCount_95d88 := goodIn_r _ [16, 17, 18, 19] (by decide +kernel) (by decide +kernel)
set_option maxRecDepth 20000 in
theorem gX2_nextFall_J13_bitCount_95d88 : GoodIn wsX2_nextFall (va_wsS RX2 78 yJ13_bitCount_95d88 wsJ13_bitCount_95d88) := goodIn_app (goodIn_of _ (by decide +kernel)) ggX2_nextFall_J13_bitCount_95d88
set_option maxRecDepth 20000 in
theorem ggX2_nextFall_X2_behindRow : GoodIn wsX2_nextFall wsX2_behindRow := goodIn_r _ [22] (by decide +kernel) (by decide +kernel)
set_option maxRecDepth 20000 in
theorem gX2_nextFall_X2_behindRow : GoodIn wsX2_nextFall (va_wsS RX2 84 yX2_behindRow wsX2_behindRow) := goodIn_app (goodIn_of _ (by decide +kernel)) ggX2_nextFall_X2_behindRow
theorem dX2_nextFall_0 : decode cX2_nextFall 0 = .ok (.iload_n 1, 1) := by decide +kernel
theorem dX2_nextFall_1 : decode cX2_nextFall 1 = .ok (.iconst 0, 1) := by decide +kernel
theorem dX2_nextFall_2 : decode cX2_nextFall 2 = .ok (.invokestatic 65, 3) := by decide +kernel
theorem dX2_nextFall_5 : decode cX2_nextFall 5 = .ok (.istore_n 2, 1) := by decide +kernel
theorem dX2_nextFall_6 : decode cX2_nextFall 6 = .ok (.iload_n 2, 1) := by decide +kernel
theorem dX2_nextFall_7 : decode cX2_nextFall 7 = .ok (.aload_n 0, 1) := by decide +kernel
theorem dX2_nextFall_8 : decode cX2_nextFall 8 = .ok (.getfield 39, 3) := by decide +kernel
theorem dX2_nextFall_11 : decode cX2_nextFall 11 = .ok (.if_icmp .ge 47, 3) := by decide +kernel
theorem dX2_nextFall_14 : decode cX2_nextFall 14 = .ok (.aload_n 0, 1) := by decide +kernel
theorem dX2_nextFall_15 : decode cX2_nextFall 15 = .ok (.iload_n 2, 1) := by decide +kernel
theorem dX2_nextFall_16 : decode cX2_nextFall 16 = .ok (.bipush 64, 2) := by decide +kernel
theorem dX2_nextFall_18 : decode cX2_nextFall 18 = .ok (.idiv, 1) := by decide +kernel
theorem dX2_nextFall_19 : decode cX2_nextFall 19 = .ok (.invokevirtual 74, 3) := by decide +kernel
theorem dX2_nextFall_22 : decode cX2_nextFall 22 = .ok (.iload_n 2, 1) := by decide +kernel
theorem dX2_nextFall_23 : decode cX2_nextFall 23 = .ok (.bipush 64, 2) := by decide +kernel
theorem dX2_nextFall_25 : decode cX2_nextFall 25 = .ok (.irem, 1) := by decide +kernel
theorem dX2_nextFall_26 : decode cX2_nextFall 26 = .ok (.lushr, 1) := by decide +kernel
theorem dX2_nextFall_27 : decode cX2_nextFall 27 = .ok (.lstore_n 3, 1) := by decide +kernel
theorem dX2_nextFall_28 : decode cX2_nextFall 28 = .ok (.lload_n 3, 1) := by decide +kernel
theorem dX2_nextFall_29 : decode cX2_nextFall 29 = .ok (.lconst 0, 1) := by decide +kernel
theorem dX2_nextFall_30 : decode cX2_nextFall 30 = .ok (.lcmp, 1) := by decide +kernel
theorem dX2_nextFall_31 : decode cX2_nextFall 31 = .ok (.ifCond .eq 19, 3) := by decide +kernel
theorem dX2_nextFall_34 : decode cX2_nextFall 34 = .ok (.lload_n 3, 1) := by decide +kernel
theorem dX2_nextFall_35 : decode cX2_nextFall 35 = .ok (.lload_n 3, 1) := by decide +kernel
theorem dX2_nextFall_36 : decode cX2_nextFall 36 = .ok (.lneg, 1) := by decide +kernel
theorem dX2_nextFall_37 : decode cX2_nextFall 37 = .ok (.land, 1) := by decide +kernel
theorem dX2_nextFall_38 : decode cX2_nextFall 38 = .ok (.lstore 5, 2) := by decide +kernel
theorem dX2_nextFall_40 : decode cX2_nextFall 40 = .ok (.iload_n 2, 1) := by decide +kernel
theorem dX2_nextFall_41 : decode cX2_nextFall 41 = .ok (.lload 5, 2) := by decide +kernel
theorem dX2_nextFall_43 : decode cX2_nextFall 43 = .ok (.lconst 1, 1) := by decide +kernel
theorem dX2_nextFall_44 : decode cX2_nextFall 44 = .ok (.lsub, 1) := by decide +kernel
theorem dX2_nextFall_45 : decode cX2_nextFall 45 = .ok (.invokestatic 78, 3) := by decide +kernel
theorem dX2_nextFall_48 : decode cX2_nextFall 48 = .ok (.iadd, 1) := by decide +kernel
theorem dX2_nextFall_49 : decode cX2_nextFall 49 = .ok (.ireturn, 1) := by decide +kernel
theorem dX2_nextFall_50 : decode cX2_nextFall 50 = .ok (.iload_n 2, 1) := by decide +kernel
theorem dX2_nextFall_51 : decode cX2_nextFall 51 = .ok (.invokestatic 84, 3) := by decide +kernel
theorem dX2_nextFall_54 : decode cX2_nextFall 54 = .ok (.istore_n 2, 1) := by decide +kernel
theorem dX2_nextFall_55 : decode cX2_nextFall 55 = .ok (.goto (-49), 3) := by decide +kernel
theorem dX2_nextFall_58 : decode cX2_nextFall 58 = .ok (.aload_n 0, 1) := by decide +kernel
theorem dX2_nextFall_59 : decode cX2_nextFall 59 = .ok (.getfield 39, 3) := by decide +kernel
theorem dX2_nextFall_62 : decode cX2_nextFall 62 = .ok (.ireturn, 1) := by decide +kernel
set_option maxRecDepth 20000 in
theorem ggX2_fallOfRank_X2_nextFall : GoodIn wsX2_fallOfRank wsX2_nextFall := goodIn_r _ [6, 7, 8, 9, 10, 1, 11, 12, 13, 5, 14, 15, 16, 17, 18, 19, 20, 21, 22, 23, 24, 25, 26, 27, 28, 29, 30, 31] (by decide +kernel) (by decide +kernel)
set_option maxRecDepth 20000 in
theorem gX2_fallOfRank_X2_nextFall : GoodIn wsX2_fallOfRank (wsV RX2 87 RX2 yX2_nextFall wsX2_nextFall) := goodIn_app (goodIn_of _ (by decide +kernel)) ggX2_fallOfRank_X2_nextFall
theorem dX2_fallOfRank_0 : decode cX2_fallOfRank 0 = .ok (.aload_n 0, 1) := by decide +kernel
theorem dX2_fallOfRank_1 : decode cX2_fallOfRank 1 = .ok (.iconst 0, 1) := by decide +kernel
theorem dX2_fallOfRank_2 : decode cX2_fallOfRank 2 = .ok (.invokevirtual 87, 3) := by decide +kernel
theorem dX2_fallOfRank_5 : decode cX2_fallOfRank 5 = .ok (.istore_n 2, 1) := by decide +kernel
theorem dX2_fallOfRank_6 : decode cX2_fallOfRank 6 = .ok (.iconst 0, 1) := by decide +kernel
theorem dX2_fallOfRank_7 : decode cX2_fallOfRank 7 = .ok (.istore_n 3, 1) := by decide +kernel
theorem dX2_fallOfRank_8 : decode cX2_fallOfRank 8 = .ok (.iload_n 3, 1) := by decide +kernel
theorem dX2_fallOfRank_9 : decode cX2_fallOfRank 9 = .ok (.iload_n 1, 1) := by decide +kernel
theorem dX2_fallOfRank_10 : decode cX2_fallOfRank 10 = .ok (.if_icmp .ge 25, 3) := by decide +kernel
theorem dX2_fallOfRank_13 : decode cX2_fallOfRank 13 = .ok (.iload_n 2, 1) := by decide +kernel
theorem dX2_fallOfRank_14 : decode cX2_fallOfRank 14 = .ok (.aload_n 0, 1) := by decide +kernel
theorem dX2_fallOfRank_15 : decode cX2_fallOfRank 15 = .ok (.getfield 39, 3) := by decide +kernel
theorem dX2_fallOfRank_18 : decode cX2_fallOfRank 18 = .ok (.if_icmp .ge 17, 3) := by decide +kernel
theorem dX2_fallOfRank_21 : decode cX2_fallOfRank 21 = .ok (.aload_n 0, 1) := by decide +kernel
theorem dX2_fallOfRank_22 : decode cX2_fallOfRank 22 = .ok (.iload_n 2, 1) := by decide +kernel
theorem dX2_fallOfRank_23 : decode cX2_fallOfRank 23 = .ok (.iconst 1, 1) := by decide +kernel
theorem dX2_fallOfRank_24 : decode cX2_fallOfRank 24 = .ok (.iadd, 1) := by decide +kernel
theorem dX2_fallOfRank_25 : decode cX2_fallOfRank 25 = .ok (.invokevirtual 87, 3) := by decide +kernel
theorem dX2_fallOfRank_28 : decode cX2_fallOfRank 28 = .ok (.istore_n 2, 1) := by decide +kernel
theorem dX2_fallOfRank_29 : decode cX2_fallOfRank 29 = .ok (.iinc 3 1, 3) := by decide +kernel
theorem dX2_fallOfRank_32 : decode cX2_fallOfRank 32 = .ok (.goto (-24), 3) := by decide +kernel
theorem dX2_fallOfRank_35 : decode cX2_fallOfRank 35 = .ok (.iload_n 2, 1) := by decide +kernel
theorem dX2_fallOfRank_36 : decode cX2_fallOfRank 36 = .ok (.aload_n 0, 1) := by decide +kernel
theorem dX2_fallOfRank_37 : decode cX2_fallOfRank 37 = .ok (.getfield 39, 3) := by decide +kernel
theorem dX2_fallOfRank_40 : decode cX2_fallOfRank 40 = .ok (.if_icmp .ge 7, 3) := by decide +kernel
theorem dX2_fallOfRank_43 : decode cX2_fallOfRank 43 = .ok (.iload_n 2, 1) := by decide +kernel
theorem dX2_fallOfRank_44 : decode cX2_fallOfRank 44 = .ok (.goto 5, 3) := by decide +kernel
theorem dX2_fallOfRank_47 : decode cX2_fallOfRank 47 = .ok (.bipush (-5), 2) := by decide +kernel
theorem dX2_fallOfRank_49 : decode cX2_fallOfRank 49 = .ok (.ireturn, 1) := by decide +kernel
set_option maxRecDepth 20000 in
theorem ggX2_countFalls_X2_fallsIn : GoodIn wsX2_countFalls wsX2_fallsIn := goodIn_r _ [5, 6, 7, 15, 16, 17, 18, 19] (by decide +kernel) (by decide +kernel)
set_option maxRecDepth 20000 in
theorem gX2_countFalls_X2_fallsIn : GoodIn wsX2_countFalls (wsV RX2 74 RX2 yX2_fallsIn wsX2_fallsIn) := goodIn_app (goodIn_of _ (by decide +kernel)) ggX2_countFalls_X2_fallsIn
set_option maxRecDepth 20000 in
theorem ggX2_countFalls_J13_bitCount_95d88 : GoodIn wsX2_countFalls wsJ13_bitCount_95d88 := goodIn_r _ [11, 12, 13, 14] (by decide +kernel) (by decide +kernel)
set_option maxRecDepth 20000 in
theorem gX2_countFalls_J13_bitCount_95d88 : GoodIn wsX2_countFalls (va_wsS RX2 78 yJ13_bitCount_95d88 wsJ13_bitCount_95d88) := goodIn_app (goodIn_of _ (by decide +kernel)) ggX2_countFalls_J13_bitCount_95d88
theorem dX2_countFalls_0 : decode cX2_countFalls 0 = .ok (.iconst 0, 1) := by decide +kernel
theorem dX2_countFalls_1 : decode cX2_countFalls 1 = .ok (.istore_n 1, 1) := by decide +kernel
theorem dX2_countFalls_2 : decode cX2_countFalls 2 = .ok (.iconst 0, 1) := by decide +kernel
theorem dX2_countFalls_3 : decode cX2_countFalls 3 = .ok (.istore_n 2, 1) := by decide +kernel
theorem dX2_countFalls_4 : decode cX2_countFalls 4 = .ok (.iload_n 2, 1) := by decide +kernel
theorem dX2_countFalls_5 : decode cX2_countFalls 5 = .ok (.bipush 24, 2) := by decide +kernel
theorem dX2_countFalls_7 : decode cX2_countFalls 7 = .ok (.if_icmp .ge 20, 3) := by decide +kernel
theorem dX2_countFalls_10 : decode cX2_countFalls 10 = .ok (.iload_n 1, 1) := by decide +kernel
theorem dX2_countFalls_11 : decode cX2_countFalls 11 = .ok (.aload_n 0, 1) := by decide +kernel
theorem dX2_countFalls_12 : decode cX2_countFalls 12 = .ok (.iload_n 2, 1) := by decide +kernel
theorem dX2_countFalls_13 : decode cX2_countFalls 13 = .ok (.invokevirtual 74, 3) := by decide +kernel
theorem dX2_countFalls_16 : decode cX2_countFalls 16 = .ok (.invokestatic 78, 3) := by decide +kernel
theorem dX2_countFalls_19 : decode cX2_countFalls 19 = .ok (.iadd, 1) := by decide +kernel
theorem dX2_countFalls_20 : decode cX2_countFalls 20 = .ok (.istore_n 1, 1) := by decide +kernel
theorem dX2_countFalls_21 : decode cX2_countFalls 21 = .ok (.iinc 2 1, 3) := by decide +kernel
theorem dX2_countFalls_24 : decode cX2_countFalls 24 = .ok (.goto (-20), 3) := by decide +kernel
theorem dX2_countFalls_27 : decode cX2_countFalls 27 = .ok (.iload_n 1, 1) := by decide +kernel
theorem dX2_countFalls_28 : decode cX2_countFalls 28 = .ok (.ireturn, 1) := by decide +kernel
set_option maxRecDepth 20000 in
theorem ggX2_countLowTicks_J13_bitCount_95d88 : GoodIn wsX2_countLowTicks wsJ13_bitCount_95d88 := goodIn_r _ [6, 7, 8, 9] (by decide +kernel) (by decide +kernel)
set_option maxRecDepth 20000 in
theorem gX2_countLowTicks_J13_bitCount_95d88 : GoodIn wsX2_countLowTicks (va_wsS RX2 78 yJ13_bitCount_95d88 wsJ13_bitCount_95d88) := goodIn_app (goodIn_of _ (by decide +kernel)) ggX2_countLowTicks_J13_bitCount_95d88
theorem dX2_countLowTicks_0 : decode cX2_countLowTicks 0 = .ok (.iconst 0, 1) := by decide +kernel
theorem dX2_countLowTicks_1 : decode cX2_countLowTicks 1 = .ok (.istore_n 1, 1) := by decide +kernel
theorem dX2_countLowTicks_2 : decode cX2_countLowTicks 2 = .ok (.iconst 0, 1) := by decide +kernel
theorem dX2_countLowTicks_3 : decode cX2_countLowTicks 3 = .ok (.istore_n 2, 1) := by decide +kernel
theorem dX2_countLowTicks_4 : decode cX2_countLowTicks 4 = .ok (.iload_n 2, 1) := by decide +kernel
theorem dX2_countLowTicks_5 : decode cX2_countLowTicks 5 = .ok (.bipush 24, 2) := by decide +kernel
theorem dX2_countLowTicks_7 : decode cX2_countLowTicks 7 = .ok (.if_icmp .ge 25, 3) := by decide +kernel
theorem dX2_countLowTicks_10 : decode cX2_countLowTicks 10 = .ok (.iload_n 1, 1) := by decide +kernel
theorem dX2_countLowTicks_11 : decode cX2_countLowTicks 11 = .ok (.aload_n 0, 1) := by decide +kernel
theorem dX2_countLowTicks_12 : decode cX2_countLowTicks 12 = .ok (.getfield 11, 3) := by decide +kernel
theorem dX2_countLowTicks_15 : decode cX2_countLowTicks 15 = .ok (.iload_n 2, 1) := by decide +kernel
theorem dX2_countLowTicks_16 : decode cX2_countLowTicks 16 = .ok (.laload, 1) := by decide +kernel
theorem dX2_countLowTicks_17 : decode cX2_countLowTicks 17 = .ok (.ldc2_w 22, 3) := by decide +kernel
theorem dX2_countLowTicks_20 : decode cX2_countLowTicks 20 = .ok (.lxor, 1) := by decide +kernel
theorem dX2_countLowTicks_21 : decode cX2_countLowTicks 21 = .ok (.invokestatic 78, 3) := by decide +kernel
theorem dX2_countLowTicks_24 : decode cX2_countLowTicks 24 = .ok (.iadd, 1) := by decide +kernel
theorem dX2_countLowTicks_25 : decode cX2_countLowTicks 25 = .ok (.istore_n 1, 1) := by decide +kernel
theorem dX2_countLowTicks_26 : decode cX2_countLowTicks 26 = .ok (.iinc 2 1, 3) := by decide +kernel
theorem dX2_countLowTicks_29 : decode cX2_countLowTicks 29 = .ok (.goto (-25), 3) := by decide +kernel
theorem dX2_countLowTicks_32 : decode cX2_countLowTicks 32 = .ok (.iload_n 1, 1) := by decide +kernel
theorem dX2_countLowTicks_33 : decode cX2_countLowTicks 33 = .ok (.ireturn, 1) := by decide +kernel
set_option maxRecDepth 20000 in
theorem ggX2_learnedLength_X2_fallOfRank : GoodIn wsX2_learnedLength wsX2_fallOfRank := goodIn_r _ [5, 6, 7, 8, 9, 4, 10, 11, 12, 13, 14, 15, 16, 17, 18, 19, 20, 21, 22, 23, 24, 25, 26, 27, 28, 29, 30, 31, 32, 33, 34, 35] (by decide +kernel) (by decide +kernel)
set_option maxRecDepth 20000 in
theorem gX2_learnedLength_X2_fallOfRank : GoodIn wsX2_learnedLength (wsV RX2 90 RX2 yX2_fallOfRank wsX2_fallOfRank) := goodIn_app (goodIn_of _ (by decide +kernel)) ggX2_learnedLength_X2_fallOfRank
theorem dX2_learnedLength_0 : decode cX2_learnedLength 0 = .ok (.aload_n 0, 1) := by decide +kernel
theorem dX2_learnedLength_1 : decode cX2_learnedLength 1 = .ok (.iconst 4, 1) := by decide +kernel
theorem dX2_learnedLength_2 : decode cX2_learnedLength 2 = .ok (.invokevirtual 90, 3) := by decide +kernel
theorem dX2_learnedLength_5 : decode cX2_learnedLength 5 = .ok (.istore_n 1, 1) := by decide +kernel
theorem dX2_learnedLength_6 : decode cX2_learnedLength 6 = .ok (.iload_n 1, 1) := by decide +kernel
theorem dX2_learnedLength_7 : decode cX2_learnedLength 7 = .ok (.bipush (-5), 2) := by decide +kernel
theorem dX2_learnedLength_9 : decode cX2_learnedLength 9 = .ok (.if_icmp .ne 6, 3) := by decide +kernel
theorem dX2_learnedLength_12 : decode cX2_learnedLength 12 = .ok (.bipush (-5), 2) := by decide +kernel
theorem dX2_learnedLength_14 : decode cX2_learnedLength 14 = .ok (.ireturn, 1) := by decide +kernel
theorem dX2_learnedLength_15 : decode cX2_learnedLength 15 = .ok (.iload_n 1, 1) := by decide +kernel
theorem dX2_learnedLength_16 : decode cX2_learnedLength 16 = .ok (.aload_n 0, 1) := by decide +kernel
theorem dX2_learnedLength_17 : decode cX2_learnedLength 17 = .ok (.iconst 0, 1) := by decide +kernel
theorem dX2_learnedLength_18 : decode cX2_learnedLength 18 = .ok (.invokevirtual 90, 3) := by decide +kernel
theorem dX2_learnedLength_21 : decode cX2_learnedLength 21 = .ok (.isub, 1) := by decide +kernel
theorem dX2_learnedLength_22 : decode cX2_learnedLength 22 = .ok (.iconst 4, 1) := by decide +kernel
theorem dX2_learnedLength_23 : decode cX2_learnedLength 23 = .ok (.iadd, 1) := by decide +kernel
theorem dX2_learnedLength_24 : decode cX2_learnedLength 24 = .ok (.istore_n 2, 1) := by decide +kernel
theorem dX2_learnedLength_25 : decode cX2_learnedLength 25 = .ok (.iload_n 2, 1) := by decide +kernel
theorem dX2_learnedLength_26 : decode cX2_learnedLength 26 = .ok (.bipush 8, 2) := by decide +kernel
theorem dX2_learnedLength_28 : decode cX2_learnedLength 28 = .ok (.idiv, 1) := by decide +kernel
theorem dX2_learnedLength_29 : decode cX2_learnedLength 29 = .ok (.istore_n 3, 1) := by decide +kernel
theorem dX2_learnedLength_30 : decode cX2_learnedLength 30 = .ok (.iload_n 3, 1) := by decide +kernel
theorem dX2_learnedLength_31 : decode cX2_learnedLength 31 = .ok (.iconst 4, 1) := by decide +kernel
theorem dX2_learnedLength_32 : decode cX2_learnedLength 32 = .ok (.if_icmp .lt 9, 3) := by decide +kernel
theorem dX2_learnedLength_35 : decode cX2_learnedLength 35 = .ok (.iload_n 3, 1) := by decide +kernel
theorem dX2_learnedLength_36 : decode cX2_learnedLength 36 = .ok (.bipush 40, 2) := by decide +kernel
theorem dX2_learnedLength_38 : decode cX2_learnedLength 38 = .ok (.if_icmp .le 8, 3) := by decide +kernel
theorem dX2_learnedLength_41 : decode cX2_learnedLength 41 = .ok (.bipush (-5), 2) := by decide +kernel
theorem dX2_learnedLength_43 : decode cX2_learnedLength 43 = .ok (.goto 4, 3) := by decide +kernel
theorem dX2_learnedLength_46 : decode cX2_learnedLength 46 = .ok (.iload_n 3, 1) := by decide +kernel
theorem dX2_learnedLength_47 : decode cX2_learnedLength 47 = .ok (.ireturn, 1) := by decide +kernel
theorem dX2_bitsOfWord_0 : decode cX2_bitsOfWord 0 = .ok (.aload_n 0, 1) := by decide +kernel
theorem dX2_bitsOfWord_1 : decode cX2_bitsOfWord 1 = .ok (.getfield 19, 3) := by decide +kernel
theorem dX2_bitsOfWord_4 : decode cX2_bitsOfWord 4 = .ok (.iconst 2, 1) := by decide +kernel
theorem dX2_bitsOfWord_5 : decode cX2_bitsOfWord 5 = .ok (.iaload, 1) := by decide +kernel
theorem dX2_bitsOfWord_6 : decode cX2_bitsOfWord 6 = .ok (.ifCond .ne 7, 3) := by decide +kernel
theorem dX2_bitsOfWord_9 : decode cX2_bitsOfWord 9 = .ok (.iconst 0, 1) := by decide +kernel
theorem dX2_bitsOfWord_10 : decode cX2_bitsOfWord 10 = .ok (.goto 4, 3) := by decide +kernel
theorem dX2_bitsOfWord_13 : decode cX2_bitsOfWord 13 = .ok (.iconst 1, 1) := by decide +kernel
theorem dX2_bitsOfWord_14 : decode cX2_bitsOfWord 14 = .ok (.istore_n 1, 1) := by decide +kernel
theorem dX2_bitsOfWord_15 : decode cX2_bitsOfWord 15 = .ok (.bipush 9, 2) := by decide +kernel
theorem dX2_bitsOfWord_17 : decode cX2_bitsOfWord 17 = .ok (.iload_n 1, 1) := by decide +kernel
theorem dX2_bitsOfWord_18 : decode cX2_bitsOfWord 18 = .ok (.iadd, 1) := by decide +kernel
theorem dX2_bitsOfWord_19 : decode cX2_bitsOfWord 19 = .ok (.aload_n 0, 1) := by decide +kernel
theorem dX2_bitsOfWord_20 : decode cX2_bitsOfWord 20 = .ok (.getfield 19, 3) := by decide +kernel
theorem dX2_bitsOfWord_23 : decode cX2_bitsOfWord 23 = .ok (.iconst 3, 1) := by decide +kernel
theorem dX2_bitsOfWord_24 : decode cX2_bitsOfWord 24 = .ok (.iaload, 1) := by decide +kernel
theorem dX2_bitsOfWord_25 : decode cX2_bitsOfWord 25 = .ok (.iadd, 1) := by decide +kernel
theorem dX2_bitsOfWord_26 : decode cX2_bitsOfWord 26 = .ok (.ireturn, 1) := by decide +kernel
set_option maxRecDepth 20000 in
theorem ggX2_bitsOf_X4_parityOf : GoodIn wsX2_bitsOf wsX4_parityOf := goodIn_r _ [4, 5, 6, 7, 8, 9, 10, 11] (by decide +kernel) (by decide +kernel)
set_option maxRecDepth 20000 in
theorem gX2_bitsOf_X4_parityOf_n93 : GoodIn wsX2_bitsOf (wsX4_parityOf) := ggX2_bitsOf_X4_parityOf
theorem dX2_bitsOf_0 : decode cX2_bitsOf 0 = .ok (.iload_n 1, 1) := by decide +kernel
theorem dX2_bitsOf_1 : decode cX2_bitsOf 1 = .ok (.iconst 1, 1) := by decide +kernel
theorem dX2_bitsOf_2 : decode cX2_bitsOf 2 = .ok (.ishl, 1) := by decide +kernel
theorem dX2_bitsOf_3 : decode cX2_bitsOf 3 = .ok (.istore_n 2, 1) := by decide +kernel
theorem dX2_bitsOf_4 : decode cX2_bitsOf 4 = .ok (.bipush 9, 2) := by decide +kernel
theorem dX2_bitsOf_6 : decode cX2_bitsOf 6 = .ok (.istore_n 3, 1) := by decide +kernel
theorem dX2_bitsOf_7 : decode cX2_bitsOf 7 = .ok (.aload_n 0, 1) := by decide +kernel
theorem dX2_bitsOf_8 : decode cX2_bitsOf 8 = .ok (.getfield 19, 3) := by decide +kernel
theorem dX2_bitsOf_11 : decode cX2_bitsOf 11 = .ok (.iconst 2, 1) := by decide +kernel
theorem dX2_bitsOf_12 : decode cX2_bitsOf 12 = .ok (.iaload, 1) := by decide +kernel
theorem dX2_bitsOf_13 : decode cX2_bitsOf 13 = .ok (.ifCond .eq 22, 3) := by decide +kernel
theorem dX2_bitsOf_16 : decode cX2_bitsOf 16 = .ok (.iload_n 2, 1) := by decide +kernel
theorem dX2_bitsOf_17 : decode cX2_bitsOf 17 = .ok (.iload_n 1, 1) := by decide +kernel
theorem dX2_bitsOf_18 : decode cX2_bitsOf 18 = .ok (.aload_n 0, 1) := by decide +kernel
theorem dX2_bitsOf_19 : decode cX2_bitsOf 19 = .ok (.getfield 19, 3) := by decide +kernel
theorem dX2_bitsOf_22 : decode cX2_bitsOf 22 = .ok (.iconst 2, 1) := by decide +kernel
theorem dX2_bitsOf_23 : decode cX2_bitsOf 23 = .ok (.iaload, 1) := by decide +kernel
theorem dX2_bitsOf_24 : decode cX2_bitsOf 24 = .ok (.invokestatic 93, 3) := by decide +kernel
theorem dX2_bitsOf_27 : decode cX2_bitsOf 27 = .ok (.bipush 9, 2) := by decide +kernel
theorem dX2_bitsOf_29 : decode cX2_bitsOf 29 = .ok (.ishl, 1) := by decide +kernel
theorem dX2_bitsOf_30 : decode cX2_bitsOf 30 = .ok (.ior, 1) := by decide +kernel
theorem dX2_bitsOf_31 : decode cX2_bitsOf 31 = .ok (.istore_n 2, 1) := by decide +kernel
theorem dX2_bitsOf_32 : decode cX2_bitsOf 32 = .ok (.iinc 3 1, 3) := by decide +kernel
theorem dX2_bitsOf_35 : decode cX2_bitsOf 35 = .ok (.iload_n 2, 1) := by decide +kernel
theorem dX2_bitsOf_36 : decode cX2_bitsOf 36 = .ok (.iconst 3, 1) := by decide +kernel
theorem dX2_bitsOf_37 : decode cX2_bitsOf 37 = .ok (.iload_n 3, 1) := by decide +kernel
theorem dX2_bitsOf_38 : decode cX2_bitsOf 38 = .ok (.ishl, 1) := by decide +kernel
theorem dX2_bitsOf_39 : decode cX2_bitsOf 39 = .ok (.ior, 1) := by decide +kernel
theorem dX2_bitsOf_40 : decode cX2_bitsOf 40 = .ok (.ireturn, 1) := by decide +kernel
theorem dX2_putLow_0 : decode cX2_putLow 0 = .ok (.iload_n 1, 1) := by decide +kernel
theorem dX2_putLow_1 : decode cX2_putLow 1 = .ok (.iconst 0, 1) := by decide +kernel
theorem dX2_putLow_2 : decode cX2_putLow 2 = .ok (.invokestatic 65, 3) := by decide +kernel
theorem dX2_putLow_5 : decode cX2_putLow 5 = .ok (.istore_n 3, 1) := by decide +kernel
theorem dX2_putLow_6 : decode cX2_putLow 6 = .ok (.iload_n 3, 1) := by decide +kernel
theorem dX2_putLow_7 : decode cX2_putLow 7 = .ok (.iload_n 2, 1) := by decide +kernel
theorem dX2_putLow_8 : decode cX2_putLow 8 = .ok (.if_icmp .ge 38, 3) := by decide +kernel
theorem dX2_putLow_11 : decode cX2_putLow 11 = .ok (.iload_n 3, 1) := by decide +kernel
theorem dX2_putLow_12 : decode cX2_putLow 12 = .ok (.sipush 1500, 3) := by decide +kernel
theorem dX2_putLow_15 : decode cX2_putLow 15 = .ok (.if_icmp .ge 31, 3) := by decide +kernel
theorem dX2_putLow_18 : decode cX2_putLow 18 = .ok (.aload_n 0, 1) := by decide +kernel
theorem dX2_putLow_19 : decode cX2_putLow 19 = .ok (.getfield 11, 3) := by decide +kernel
theorem dX2_putLow_22 : decode cX2_putLow 22 = .ok (.iload_n 3, 1) := by decide +kernel
theorem dX2_putLow_23 : decode cX2_putLow 23 = .ok (.bipush 64, 2) := by decide +kernel
theorem dX2_putLow_25 : decode cX2_putLow 25 = .ok (.idiv, 1) := by decide +kernel
theorem dX2_putLow_26 : decode cX2_putLow 26 = .ok (.dup2, 1) := by decide +kernel
theorem dX2_putLow_27 : decode cX2_putLow 27 = .ok (.laload, 1) := by decide +kernel
theorem dX2_putLow_28 : decode cX2_putLow 28 = .ok (.lconst 1, 1) := by decide +kernel
theorem dX2_putLow_29 : decode cX2_putLow 29 = .ok (.iload_n 3, 1) := by decide +kernel
theorem dX2_putLow_30 : decode cX2_putLow 30 = .ok (.bipush 64, 2) := by decide +kernel
theorem dX2_putLow_32 : decode cX2_putLow 32 = .ok (.irem, 1) := by decide +kernel
theorem dX2_putLow_33 : decode cX2_putLow 33 = .ok (.lshl, 1) := by decide +kernel
theorem dX2_putLow_34 : decode cX2_putLow 34 = .ok (.ldc2_w 22, 3) := by decide +kernel
theorem dX2_putLow_37 : decode cX2_putLow 37 = .ok (.lxor, 1) := by decide +kernel
theorem dX2_putLow_38 : decode cX2_putLow 38 = .ok (.land, 1) := by decide +kernel
theorem dX2_putLow_39 : decode cX2_putLow 39 = .ok (.lastore, 1) := by decide +kernel
theorem dX2_putLow_40 : decode cX2_putLow 40 = .ok (.iinc 3 1, 3) := by decide +kernel
theorem dX2_putLow_43 : decode cX2_putLow 43 = .ok (.goto (-37), 3) := by decide +kernel
theorem dX2_putLow_46 : decode cX2_putLow 46 = .ok (.return_, 1) := by decide +kernel
theorem dX2_behindRow_0 : decode cX2_behindRow 0 = .ok (.iload_n 0, 1) := by decide +kernel
theorem dX2_behindRow_1 : decode cX2_behindRow 1 = .ok (.bipush 64, 2) := by decide +kernel
theorem dX2_behindRow_3 : decode cX2_behindRow 3 = .ok (.idiv, 1) := by decide +kernel
theorem dX2_behindRow_4 : decode cX2_behindRow 4 = .ok (.iconst 1, 1) := by decide +kernel
theorem dX2_behindRow_5 : decode cX2_behindRow 5 = .ok (.iadd, 1) := by decide +kernel
theorem dX2_behindRow_6 : decode cX2_behindRow 6 = .ok (.bipush 64, 2) := by decide +kernel
theorem dX2_behindRow_8 : decode cX2_behindRow 8 = .ok (.imul, 1) := by decide +kernel
theorem dX2_behindRow_9 : decode cX2_behindRow 9 = .ok (.ireturn, 1) := by decide +kernel
theorem dX2_fallsIn_0 : decode cX2_fallsIn 0 = .ok (.iload_n 1, 1) := by decide +kernel
theorem dX2_fallsIn_1 : decode cX2_fallsIn 1 = .ok (.ifCond .lt 9, 3) := by decide +kernel
theorem dX2_fallsIn_4 : decode cX2_fallsIn 4 = .ok (.iload_n 1, 1) := by decide +kernel
theorem dX2_fallsIn_5 : decode cX2_fallsIn 5 = .ok (.bipush 24, 2) := by decide +kernel
theorem dX2_fallsIn_7 : decode cX2_fallsIn 7 = .ok (.if_icmp .lt 5, 3) := by decide +kernel
theorem dX2_fallsIn_10 : decode cX2_fallsIn 10 = .ok (.lconst 0, 1) := by decide +kernel
theorem dX2_fallsIn_11 : decode cX2_fallsIn 11 = .ok (.lreturn, 1) := by decide +kernel
theorem dX2_fallsIn_12 : decode cX2_fallsIn 12 = .ok (.iload_n 1, 1) := by decide +kernel
theorem dX2_fallsIn_13 : decode cX2_fallsIn 13 = .ok (.ifCond .ne 7, 3) := by decide +kernel
theorem dX2_fallsIn_16 : decode cX2_fallsIn 16 = .ok (.lconst 1, 1) := by decide +kernel
theorem dX2_fallsIn_17 : decode cX2_fallsIn 17 = .ok (.goto 14, 3) := by decide +kernel
theorem dX2_fallsIn_20 : decode cX2_fallsIn 20 = .ok (.aload_n 0, 1) := by decide +kernel
theorem dX2_fallsIn_21 : decode cX2_fallsIn 21 = .ok (.getfield 11, 3) := by decide +kernel
theorem dX2_fallsIn_24 : decode cX2_fallsIn 24 = .ok (.iload_n 1, 1) := by decide +kernel
theorem dX2_fallsIn_25 : decode cX2_fallsIn 25 = .ok (.iconst 1, 1) := by decide +kernel
theorem dX2_fallsIn_26 : decode cX2_fallsIn 26 = .ok (.isub, 1) := by decide +kernel
theorem dX2_fallsIn_27 : decode cX2_fallsIn 27 = .ok (.laload, 1) := by decide +kernel
theorem dX2_fallsIn_28 : decode cX2_fallsIn 28 = .ok (.bipush 63, 2) := by decide +kernel
theorem dX2_fallsIn_30 : decode cX2_fallsIn 30 = .ok (.lushr, 1) := by decide +kernel
theorem dX2_fallsIn_31 : decode cX2_fallsIn 31 = .ok (.lstore_n 2, 1) := by decide +kernel
theorem dX2_fallsIn_32 : decode cX2_fallsIn 32 = .ok (.aload_n 0, 1) := by decide +kernel
theorem dX2_fallsIn_33 : decode cX2_fallsIn 33 = .ok (.getfield 11, 3) := by decide +kernel
theorem dX2_fallsIn_36 : decode cX2_fallsIn 36 = .ok (.iload_n 1, 1) := by decide +kernel
theorem dX2_fallsIn_37 : decode cX2_fallsIn 37 = .ok (.laload, 1) := by decide +kernel
theorem dX2_fallsIn_38 : decode cX2_fallsIn 38 = .ok (.iconst 1, 1) := by decide +kernel
theorem dX2_fallsIn_39 : decode cX2_fallsIn 39 = .ok (.lshl, 1) := by decide +kernel
theorem dX2_fallsIn_40 : decode cX2_fallsIn 40 = .ok (.lload_n 2, 1) := by decide +kernel
theorem dX2_fallsIn_41 : decode cX2_fallsIn 41 = .ok (.lor, 1) := by decide +kernel
theorem dX2_fallsIn_42 : decode cX2_fallsIn 42 = .ok (.aload_n 0, 1) := by decide +kernel
theorem dX2_fallsIn_43 : decode cX2_fallsIn 43 = .ok (.getfield 11, 3) := by decide +kernel
theorem dX2_fallsIn_46 : decode cX2_fallsIn 46 = .ok (.iload_n 1, 1) := by decide +kernel
theorem dX2_fallsIn_47 : decode cX2_fallsIn 47 = .ok (.laload, 1) := by decide +kernel
theorem dX2_fallsIn_48 : decode cX2_fallsIn 48 = .ok (.ldc2_w 22, 3) := by decide +kernel
theorem dX2_fallsIn_51 : decode cX2_fallsIn 51 = .ok (.lxor, 1) := by decide +kernel
theorem dX2_fallsIn_52 : decode cX2_fallsIn 52 = .ok (.land, 1) := by decide +kernel
theorem dX2_fallsIn_53 : decode cX2_fallsIn 53 = .ok (.lreturn, 1) := by decide +kernel
theorem dX3_init_0 : decode cX3_init 0 = .ok (.aload_n 0, 1) := by decide +kernel
theorem dX3_init_1 : decode cX3_init 1 = .ok (.invokespecial 5, 3) := by decide +kernel
theorem dX3_init_4 : decode cX3_init 4 = .ok (.aload_n 0, 1) := by decide +kernel
theorem dX3_init_5 : decode cX3_init 5 = .ok (.bipush 60, 2) := by decide +kernel
theorem dX3_init_7 : decode cX3_init 7 = .ok (.newarray .char, 2) := by decide +kernel
theorem dX3_init_9 : decode cX3_init 9 = .ok (.putfield 11, 3) := by decide +kernel
theorem dX3_init_12 : decode cX3_init 12 = .ok (.aload_n 0, 1) := by decide +kernel
theorem dX3_init_13 : decode cX3_init 13 = .ok (.bipush 30, 2) := by decide +kernel
theorem dX3_init_15 : decode cX3_init 15 = .ok (.newarray .int, 2) := by decide +kernel
theorem dX3_init_17 : decode cX3_init 17 = .ok (.putfield 15, 3) := by decide +kernel
theorem dX3_init_20 : decode cX3_init 20 = .ok (.aload_n 0, 1) := by decide +kernel
theorem dX3_init_21 : decode cX3_init 21 = .ok (.bipush 30, 2) := by decide +kernel
theorem dX3_init_23 : decode cX3_init 23 = .ok (.newarray .int, 2) := by decide +kernel
theorem dX3_init_25 : decode cX3_init 25 = .ok (.putfield 19, 3) := by decide +kernel
theorem dX3_init_28 : decode cX3_init 28 = .ok (.return_, 1) := by decide +kernel
theorem dX3_length_0 : decode cX3_length 0 = .ok (.aload_n 0, 1) := by decide +kernel
theorem dX3_length_1 : decode cX3_length 1 = .ok (.getfield 22, 3) := by decide +kernel
theorem dX3_length_4 : decode cX3_length 4 = .ok (.ireturn, 1) := by decide +kernel
theorem dX3_append_0 : decode cX3_append 0 = .ok (.aload_n 0, 1) := by decide +kernel
theorem dX3_append_1 : decode cX3_append 1 = .ok (.getfield 22, 3) := by decide +kernel
theorem dX3_append_4 : decode cX3_append 4 = .ok (.bipush 60, 2) := by decide +kernel
theorem dX3_append_6 : decode cX3_append 6 = .ok (.if_icmp .lt 5, 3) := by decide +kernel
theorem dX3_append_9 : decode cX3_append 9 = .ok (.iconst 0, 1) := by decide +kernel
theorem dX3_append_10 : decode cX3_append 10 = .ok (.ireturn, 1) := by decide +kernel
theorem dX3_append_11 : decode cX3_append 11 = .ok (.aload_n 0, 1) := by decide +kernel
theorem dX3_append_12 : decode cX3_append 12 = .ok (.getfield 11, 3) := by decide +kernel
theorem dX3_append_15 : decode cX3_append 15 = .ok (.aload_n 0, 1) := by decide +kernel
theorem dX3_append_16 : decode cX3_append 16 = .ok (.getfield 22, 3) := by decide +kernel
theorem dX3_append_19 : decode cX3_append 19 = .ok (.iload_n 1, 1) := by decide +kernel
theorem dX3_append_20 : decode cX3_append 20 = .ok (.castore, 1) := by decide +kernel
theorem dX3_append_21 : decode cX3_append 21 = .ok (.aload_n 0, 1) := by decide +kernel
theorem dX3_append_22 : decode cX3_append 22 = .ok (.dup, 1) := by decide +kernel
theorem dX3_append_23 : decode cX3_append 23 = .ok (.getfield 22, 3) := by decide +kernel
theorem dX3_append_26 : decode cX3_append 26 = .ok (.iconst 1, 1) := by decide +kernel
theorem dX3_append_27 : decode cX3_append 27 = .ok (.iadd, 1) := by decide +kernel
theorem dX3_append_28 : decode cX3_append 28 = .ok (.putfield 22, 3) := by decide +kernel
theorem dX3_append_31 : decode cX3_append 31 = .ok (.iconst 1, 1) := by decide +kernel
theorem dX3_append_32 : decode cX3_append 32 = .ok (.ireturn, 1) := by decide +kernel
theorem dX3_empty_0 : decode cX3_empty 0 = .ok (.aload_n 0, 1) := by decide +kernel
theorem dX3_empty_1 : decode cX3_empty 1 = .ok (.iconst 0, 1) := by decide +kernel
theorem dX3_empty_2 : decode cX3_empty 2 = .ok (.putfield 22, 3) := by decide +kernel
theorem dX3_empty_5 : decode cX3_empty 5 = .ok (.return_, 1) := by decide +kernel
set_option maxRecDepth 20000 in
theorem ggX3_fault_X3_characterAt : GoodIn wsX3_fault wsX3_characterAt := goodIn_r _ [6, 1, 7, 29, 30, 31, 32] (by decide +kernel) (by decide +kernel)
set_option maxRecDepth 20000 in
theorem gX3_fault_X3_characterAt : GoodIn wsX3_fault (wsV RX3 26 RX3 yX3_characterAt wsX3_characterAt) := goodIn_app (goodIn_of _ (by decide +kernel)) ggX3_fault_X3_characterAt
set_option maxRecDepth 20000 in
theorem ggX3_fault_X3_placeBehind : GoodIn wsX3_fault wsX3_placeBehind := goodIn_r _ [10, 11, 12, 5, 13, 14, 15, 16, 17, 18, 19, 20, 21, 22, 23, 24, 25, 26, 27, 28] (by decide +kernel) (by decide +kernel)
set_option maxRecDepth 20000 in
theorem gX3_fault_X3_placeBehind : GoodIn wsX3_fault (va_wsS RX3 30 yX3_placeBehind wsX3_placeBehind) := goodIn_app (goodIn_of _ (by decide +kernel)) ggX3_fault_X3_placeBehind
theorem dX3_fault_0 : decode cX3_fault 0 = .ok (.iconst 0, 1) := by decide +kernel
theorem dX3_fault_1 : decode cX3_fault 1 = .ok (.istore_n 1, 1) := by decide +kernel
theorem dX3_fault_2 : decode cX3_fault 2 = .ok (.iconst 0, 1) := by decide +kernel
theorem dX3_fault_3 : decode cX3_fault 3 = .ok (.istore_n 2, 1) := by decide +kernel
theorem dX3_fault_4 : decode cX3_fault 4 = .ok (.iconst 0, 1) := by decide +kernel
theorem dX3_fault_5 : decode cX3_fault 5 = .ok (.istore_n 3, 1) := by decide +kernel
theorem dX3_fault_6 : decode cX3_fault 6 = .ok (.iload_n 3, 1) := by decide +kernel
theorem dX3_fault_7 : decode cX3_fault 7 = .ok (.aload_n 0, 1) := by decide +kernel
theorem dX3_fault_8 : decode cX3_fault 8 = .ok (.getfield 22, 3) := by decide +kernel
theorem dX3_fault_11 : decode cX3_fault 11 = .ok (.if_icmp .ge 55, 3) := by decide +kernel
theorem dX3_fault_14 : decode cX3_fault 14 = .ok (.aload_n 0, 1) := by decide +kernel
theorem dX3_fault_15 : decode cX3_fault 15 = .ok (.iload_n 3, 1) := by decide +kernel
theorem dX3_fault_16 : decode cX3_fault 16 = .ok (.invokevirtual 26, 3) := by decide +kernel
theorem dX3_fault_19 : decode cX3_fault 19 = .ok (.istore 4, 2) := by decide +kernel
theorem dX3_fault_21 : decode cX3_fault 21 = .ok (.iload_n 1, 1) := by decide +kernel
theorem dX3_fault_22 : decode cX3_fault 22 = .ok (.iload 4, 2) := by decide +kernel
theorem dX3_fault_24 : decode cX3_fault 24 = .ok (.iload_n 2, 1) := by decide +kernel
theorem dX3_fault_25 : decode cX3_fault 25 = .ok (.invokestatic 30, 3) := by decide +kernel
theorem dX3_fault_28 : decode cX3_fault 28 = .ok (.istore_n 1, 1) := by decide +kernel
theorem dX3_fault_29 : decode cX3_fault 29 = .ok (.iload_n 1, 1) := by decide +kernel
theorem dX3_fault_30 : decode cX3_fault 30 = .ok (.bipush 6, 2) := by decide +kernel
theorem dX3_fault_32 : decode cX3_fault 32 = .ok (.if_icmp .ne 5, 3) := by decide +kernel
theorem dX3_fault_35 : decode cX3_fault 35 = .ok (.iload_n 3, 1) := by decide +kernel
theorem dX3_fault_36 : decode cX3_fault 36 = .ok (.ireturn, 1) := by decide +kernel
theorem dX3_fault_37 : decode cX3_fault 37 = .ok (.iload 4, 2) := by decide +kernel
theorem dX3_fault_39 : decode cX3_fault 39 = .ok (.bipush 40, 2) := by decide +kernel
theorem dX3_fault_41 : decode cX3_fault 41 = .ok (.if_icmp .ne 9, 3) := by decide +kernel
theorem dX3_fault_44 : decode cX3_fault 44 = .ok (.iinc 2 1, 3) := by decide +kernel
theorem dX3_fault_47 : decode cX3_fault 47 = .ok (.goto 13, 3) := by decide +kernel
theorem dX3_fault_50 : decode cX3_fault 50 = .ok (.iload 4, 2) := by decide +kernel
theorem dX3_fault_52 : decode cX3_fault 52 = .ok (.bipush 41, 2) := by decide +kernel
theorem dX3_fault_54 : decode cX3_fault 54 = .ok (.if_icmp .ne 6, 3) := by decide +kernel
theorem dX3_fault_57 : decode cX3_fault 57 = .ok (.iinc 2 (-1), 3) := by decide +kernel
theorem dX3_fault_60 : decode cX3_fault 60 = .ok (.iinc 3 1, 3) := by decide +kernel
theorem dX3_fault_63 : decode cX3_fault 63 = .ok (.goto (-57), 3) := by decide +kernel
theorem dX3_fault_66 : decode cX3_fault 66 = .ok (.iload_n 1, 1) := by decide +kernel
theorem dX3_fault_67 : decode cX3_fault 67 = .ok (.iconst 5, 1) := by decide +kernel
theorem dX3_fault_68 : decode cX3_fault 68 = .ok (.if_icmp .eq 8, 3) := by decide +kernel
theorem dX3_fault_71 : decode cX3_fault 71 = .ok (.iload_n 1, 1) := by decide +kernel
theorem dX3_fault_72 : decode cX3_fault 72 = .ok (.iconst 4, 1) := by decide +kernel
theorem dX3_fault_73 : decode cX3_fault 73 = .ok (.if_icmp .ne 7, 3) := by decide +kernel
theorem dX3_fault_76 : decode cX3_fault 76 = .ok (.iconst 1, 1) := by decide +kernel
theorem dX3_fault_77 : decode cX3_fault 77 = .ok (.goto 4, 3) := by decide +kernel
theorem dX3_fault_80 : decode cX3_fault 80 = .ok (.iconst 0, 1) := by decide +kernel
theorem dX3_fault_81 : decode cX3_fault 81 = .ok (.istore_n 3, 1) := by decide +kernel
theorem dX3_fault_82 : decode cX3_fault 82 = .ok (.iload_n 3, 1) := by decide +kernel
theorem dX3_fault_83 : decode cX3_fault 83 = .ok (.ifCond .eq 12, 3) := by decide +kernel
theorem dX3_fault_86 : decode cX3_fault 86 = .ok (.iload_n 2, 1) := by decide +kernel
theorem dX3_fault_87 : decode cX3_fault 87 = .ok (.ifCond .ne 8, 3) := by decide +kernel
theorem dX3_fault_90 : decode cX3_fault 90 = .ok (.bipush (-5), 2) := by decide +kernel
theorem dX3_fault_92 : decode cX3_fault 92 = .ok (.goto 7, 3) := by decide +kernel
theorem dX3_fault_95 : decode cX3_fault 95 = .ok (.aload_n 0, 1) := by decide +kernel
theorem dX3_fault_96 : decode cX3_fault 96 = .ok (.getfield 22, 3) := by decide +kernel
theorem dX3_fault_99 : decode cX3_fault 99 = .ok (.ireturn, 1) := by decide +kernel
set_option maxRecDepth 20000 in
theorem ggX3_sendTo_X3_characterAt : GoodIn wsX3_sendTo wsX3_characterAt := goodIn_r _ [8, 2, 9, 89, 90, 91, 92] (by decide +kernel) (by decide +kernel)
set_option maxRecDepth 20000 in
theorem gX3_sendTo_X3_characterAt : GoodIn wsX3_sendTo (wsV RX3 26 RX3 yX3_characterAt wsX3_characterAt) := goodIn_app (goodIn_of _ (by decide +kernel)) ggX3_sendTo_X3_characterAt
set_option maxRecDepth 20000 in
theorem ggX3_sendTo_X3_isRepeatDue : GoodIn wsX3_sendTo wsX3_isRepeatDue := goodIn_r _ [13, 14, 89, 90, 91, 92] (by decide +kernel) (by decide +kernel)
set_option maxRecDepth 20000 in
theorem gX3_sendTo_X3_isRepeatDue : GoodIn wsX3_sendTo (wsV RX3 35 RX3 yX3_isRepeatDue wsX3_isRepeatDue) := goodIn_app (goodIn_of _ (by decide +kernel)) ggX3_sendTo_X3_isRepeatDue
set_option maxRecDepth 20000 in
theorem ggX3_sendTo_X3_digit : GoodIn wsX3_sendTo wsX3_digit := goodIn_r _ [17, 18, 19, 7, 20] (by decide +kernel) (by decide +kernel)
set_option maxRecDepth 20000 in
theorem gX3_sendTo_X3_digit : GoodIn wsX3_sendTo (va_wsS RX3 39 yX3_digit wsX3_digit) := goodIn_app (goodIn_of _ (by decide +kernel)) ggX3_sendTo_X3_digit
set_option maxRecDepth 20000 in
theorem ggX3_sendTo_X3_beginRepeat : GoodIn wsX3_sendTo wsX3_beginRepeat := goodIn_r _ [24, 3, 14, 89, 90, 91, 92] (by decide +kernel) (by decide +kernel)
set_option maxRecDepth 20000 in
theorem gX3_sendTo_X3_beginRepeat : GoodIn wsX3_sendTo (wsV RX3 43 RX3 yX3_beginRepeat wsX3_beginRepeat) := goodIn_app (goodIn_of _ (by decide +kernel)) ggX3_sendTo_X3_beginRepeat
set_option maxRecDepth 20000 in
theorem ggX3_sendTo_X3_sendItem : GoodIn wsX3_sendTo wsX3_sendItem := goodIn_r _ [28, 4, 5, 6, 7, 8, 2, 9, 29, 30, 31, 32, 33, 34, 35, 15, 16, 17, 18, 19, 20, 36, 37, 38, 39, 40, 41, 42, 43, 44, 45, 46, 47, 48, 49, 50, 51, 52, 53, 54, 55, 56, 57, 58, 59, 60, 61, 62, 63, 64, 65, 66, 67, 68, 69, 70, 71, 72, 73, 74, 75, 76, 77, 78, 79, 80, 81, 82, 83, 84, 89, 90, 91, 92, 93, 94, 95, 96, 97] (by decide +kernel) (by decide +kernel)
set_option maxRecDepth 20000 in
theorem gX3_sendTo_X3_sendItem : GoodIn wsX3_sendTo (wsV RX3 47 RX3 yX3_sendItem wsX3_sendItem) := goodIn_app (goodIn_of _ (by decide +kernel)) ggX3_sendTo_X3_sendItem
set_option maxRecDepth 20000 in
theorem ggX3_sendTo_X3_widthOfItem : GoodIn wsX3_sendTo wsX3_widthOfItem := goodIn_r _ [88, 4, 5, 6, 7, 8, 2, 9, 29, 30, 31, 15, 16, 17, 18, 19, 20, 89, 90, 91, 92] (by decide +kernel) (by decide +kernel)
set_option maxRecDepth 20000 in
theorem gX3_sendTo_X3_widthOfItem : GoodIn wsX3_sendTo (wsV RX3 51 RX3 yX3_widthOfItem wsX3_widthOfItem) := goodIn_app (goodIn_of _ (by decide +kernel)) ggX3_sendTo_X3_widthOfItem
theorem dX3_sendTo_0 : decode cX3_sendTo 0 = .ok (.iconst 0, 1) := by decide +kernel
theorem dX3_sendTo_1 : decode cX3_sendTo 1 = .ok (.istore_n 2, 1) := by decide +kernel
theorem dX3_sendTo_2 : decode cX3_sendTo 2 = .ok (.iconst 0, 1) := by decide +kernel
theorem dX3_sendTo_3 : decode cX3_sendTo 3 = .ok (.istore_n 3, 1) := by decide +kernel
theorem dX3_sendTo_4 : decode cX3_sendTo 4 = .ok (.iconst 0, 1) := by decide +kernel
theorem dX3_sendTo_5 : decode cX3_sendTo 5 = .ok (.istore 4, 2) := by decide +kernel
theorem dX3_sendTo_7 : decode cX3_sendTo 7 = .ok (.iload 4, 2) := by decide +kernel
theorem dX3_sendTo_9 : decode cX3_sendTo 9 = .ok (.ldc 34, 2) := by decide +kernel
theorem dX3_sendTo_11 : decode cX3_sendTo 11 = .ok (.if_icmp .ge 131, 3) := by decide +kernel
theorem dX3_sendTo_14 : decode cX3_sendTo 14 = .ok (.iload_n 3, 1) := by decide +kernel
theorem dX3_sendTo_15 : decode cX3_sendTo 15 = .ok (.aload_n 0, 1) := by decide +kernel
theorem dX3_sendTo_16 : decode cX3_sendTo 16 = .ok (.getfield 22, 3) := by decide +kernel
theorem dX3_sendTo_19 : decode cX3_sendTo 19 = .ok (.if_icmp .ge 123, 3) := by decide +kernel
theorem dX3_sendTo_22 : decode cX3_sendTo 22 = .ok (.aload_n 0, 1) := by decide +kernel
theorem dX3_sendTo_23 : decode cX3_sendTo 23 = .ok (.iload_n 3, 1) := by decide +kernel
theorem dX3_sendTo_24 : decode cX3_sendTo 24 = .ok (.invokevirtual 26, 3) := by decide +kernel
theorem dX3_sendTo_27 : decode cX3_sendTo 27 = .ok (.istore 5, 2) := by decide +kernel
theorem dX3_sendTo_29 : decode cX3_sendTo 29 = .ok (.iload 5, 2) := by decide +kernel
theorem dX3_sendTo_31 : decode cX3_sendTo 31 = .ok (.bipush 44, 2) := by decide +kernel
theorem dX3_sendTo_33 : decode cX3_sendTo 33 = .ok (.if_icmp .ne 9, 3) := by decide +kernel
theorem dX3_sendTo_36 : decode cX3_sendTo 36 = .ok (.iinc 3 1, 3) := by decide +kernel
theorem dX3_sendTo_39 : decode cX3_sendTo 39 = .ok (.goto 97, 3) := by decide +kernel
theorem dX3_sendTo_42 : decode cX3_sendTo 42 = .ok (.iload 5, 2) := by decide +kernel
theorem dX3_sendTo_44 : decode cX3_sendTo 44 = .ok (.bipush 41, 2) := by decide +kernel
theorem dX3_sendTo_46 : decode cX3_sendTo 46 = .ok (.if_icmp .ne 34, 3) := by decide +kernel
theorem dX3_sendTo_49 : decode cX3_sendTo 49 = .ok (.aload_n 0, 1) := by decide +kernel
theorem dX3_sendTo_50 : decode cX3_sendTo 50 = .ok (.iload_n 2, 1) := by decide +kernel
theorem dX3_sendTo_51 : decode cX3_sendTo 51 = .ok (.iconst 1, 1) := by decide +kernel
theorem dX3_sendTo_52 : decode cX3_sendTo 52 = .ok (.isub, 1) := by decide +kernel
theorem dX3_sendTo_53 : decode cX3_sendTo 53 = .ok (.invokevirtual 35, 3) := by decide +kernel
theorem dX3_sendTo_56 : decode cX3_sendTo 56 = .ok (.ifCond .eq 15, 3) := by decide +kernel
theorem dX3_sendTo_59 : decode cX3_sendTo 59 = .ok (.aload_n 0, 1) := by decide +kernel
theorem dX3_sendTo_60 : decode cX3_sendTo 60 = .ok (.getfield 15, 3) := by decide +kernel
theorem dX3_sendTo_63 : decode cX3_sendTo 63 = .ok (.iload_n 2, 1) := by decide +kernel
theorem dX3_sendTo_64 : decode cX3_sendTo 64 = .ok (.iconst 1, 1) := by decide +kernel
theorem dX3_sendTo_65 : decode cX3_sendTo 65 = .ok (.isub, 1) := by decide +kernel
theorem dX3_sendTo_66 : decode cX3_sendTo 66 = .ok (.iaload, 1) := by decide +kernel
theorem dX3_sendTo_67 : decode cX3_sendTo 67 = .ok (.istore_n 3, 1) := by decide +kernel
theorem dX3_sendTo_68 : decode cX3_sendTo 68 = .ok (.goto 68, 3) := by decide +kernel
theorem dX3_sendTo_71 : decode cX3_sendTo 71 = .ok (.iinc 2 (-1), 3) := by decide +kernel
theorem dX3_sendTo_74 : decode cX3_sendTo 74 = .ok (.iinc 3 1, 3) := by decide +kernel
theorem dX3_sendTo_77 : decode cX3_sendTo 77 = .ok (.goto 59, 3) := by decide +kernel
theorem dX3_sendTo_80 : decode cX3_sendTo 80 = .ok (.aload_n 0, 1) := by decide +kernel
theorem dX3_sendTo_81 : decode cX3_sendTo 81 = .ok (.iload_n 3, 1) := by decide +kernel
theorem dX3_sendTo_82 : decode cX3_sendTo 82 = .ok (.iconst 1, 1) := by decide +kernel
theorem dX3_sendTo_83 : decode cX3_sendTo 83 = .ok (.iadd, 1) := by decide +kernel
theorem dX3_sendTo_84 : decode cX3_sendTo 84 = .ok (.invokevirtual 26, 3) := by decide +kernel
theorem dX3_sendTo_87 : decode cX3_sendTo 87 = .ok (.bipush 40, 2) := by decide +kernel
theorem dX3_sendTo_89 : decode cX3_sendTo 89 = .ok (.if_icmp .ne 28, 3) := by decide +kernel
theorem dX3_sendTo_92 : decode cX3_sendTo 92 = .ok (.iinc 3 2, 3) := by decide +kernel
theorem dX3_sendTo_95 : decode cX3_sendTo 95 = .ok (.aload_n 0, 1) := by decide +kernel
theorem dX3_sendTo_96 : decode cX3_sendTo 96 = .ok (.iload_n 2, 1) := by decide +kernel
theorem dX3_sendTo_97 : decode cX3_sendTo 97 = .ok (.iload_n 3, 1) := by decide +kernel
theorem dX3_sendTo_98 : decode cX3_sendTo 98 = .ok (.iload 5, 2) := by decide +kernel
theorem dX3_sendTo_100 : decode cX3_sendTo 100 = .ok (.invokestatic 39, 3) := by decide +kernel
theorem dX3_sendTo_103 : decode cX3_sendTo 103 = .ok (.invokevirtual 43, 3) := by decide +kernel
theorem dX3_sendTo_106 : decode cX3_sendTo 106 = .ok (.ifCond .ne 5, 3) := by decide +kernel
theorem dX3_sendTo_109 : decode cX3_sendTo 109 = .ok (.iconst 0, 1) := by decide +kernel
theorem dX3_sendTo_110 : decode cX3_sendTo 110 = .ok (.ireturn, 1) := by decide +kernel
theorem dX3_sendTo_111 : decode cX3_sendTo 111 = .ok (.iinc 2 1, 3) := by decide +kernel
theorem dX3_sendTo_114 : decode cX3_sendTo 114 = .ok (.goto 22, 3) := by decide +kernel
theorem dX3_sendTo_117 : decode cX3_sendTo 117 = .ok (.aload_n 0, 1) := by decide +kernel
theorem dX3_sendTo_118 : decode cX3_sendTo 118 = .ok (.aload_n 1, 1) := by decide +kernel
theorem dX3_sendTo_119 : decode cX3_sendTo 119 = .ok (.iload_n 3, 1) := by decide +kernel
theorem dX3_sendTo_120 : decode cX3_sendTo 120 = .ok (.invokevirtual 47, 3) := by decide +kernel
theorem dX3_sendTo_123 : decode cX3_sendTo 123 = .ok (.ifCond .ne 5, 3) := by decide +kernel
theorem dX3_sendTo_126 : decode cX3_sendTo 126 = .ok (.iconst 0, 1) := by decide +kernel
theorem dX3_sendTo_127 : decode cX3_sendTo 127 = .ok (.ireturn, 1) := by decide +kernel
theorem dX3_sendTo_128 : decode cX3_sendTo 128 = .ok (.iload_n 3, 1) := by decide +kernel
theorem dX3_sendTo_129 : decode cX3_sendTo 129 = .ok (.aload_n 0, 1) := by decide +kernel
theorem dX3_sendTo_130 : decode cX3_sendTo 130 = .ok (.iload_n 3, 1) := by decide +kernel
theorem dX3_sendTo_131 : decode cX3_sendTo 131 = .ok (.invokevirtual 51, 3) := by decide +kernel
theorem dX3_sendTo_134 : decode cX3_sendTo 134 = .ok (.iadd, 1) := by decide +kernel
theorem dX3_sendTo_135 : decode cX3_sendTo 135 = .ok (.istore_n 3, 1) := by decide +kernel
theorem dX3_sendTo_136 : decode cX3_sendTo 136 = .ok (.iinc 4 1, 3) := by decide +kernel
theorem dX3_sendTo_139 : decode cX3_sendTo 139 = .ok (.goto (-132), 3) := by decide +kernel
theorem dX3_sendTo_142 : decode cX3_sendTo 142 = .ok (.iload_n 3, 1) := by decide +kernel
theorem dX3_sendTo_143 : decode cX3_sendTo 143 = .ok (.aload_n 0, 1) := by decide +kernel
theorem dX3_sendTo_144 : decode cX3_sendTo 144 = .ok (.getfield 22, 3) := by decide +kernel
theorem dX3_sendTo_147 : decode cX3_sendTo 147 = .ok (.if_icmp .lt 7, 3) := by decide +kernel
theorem dX3_sendTo_150 : decode cX3_sendTo 150 = .ok (.iconst 1, 1) := by decide +kernel
theorem dX3_sendTo_151 : decode cX3_sendTo 151 = .ok (.goto 4, 3) := by decide +kernel
theorem dX3_sendTo_154 : decode cX3_sendTo 154 = .ok (.iconst 0, 1) := by decide +kernel
theorem dX3_sendTo_155 : decode cX3_sendTo 155 = .ok (.ireturn, 1) := by decide +kernel
theorem dX3_characterAt_0 : decode cX3_characterAt 0 = .ok (.iload_n 1, 1) := by decide +kernel
theorem dX3_characterAt_1 : decode cX3_characterAt 1 = .ok (.ifCond .lt 11, 3) := by decide +kernel
theorem dX3_characterAt_4 : decode cX3_characterAt 4 = .ok (.iload_n 1, 1) := by decide +kernel
theorem dX3_characterAt_5 : decode cX3_characterAt 5 = .ok (.aload_n 0, 1) := by decide +kernel
theorem dX3_characterAt_6 : decode cX3_characterAt 6 = .ok (.getfield 22, 3) := by decide +kernel
theorem dX3_characterAt_9 : decode cX3_characterAt 9 = .ok (.if_icmp .lt 7, 3) := by decide +kernel
theorem dX3_characterAt_12 : decode cX3_characterAt 12 = .ok (.iconst 0, 1) := by decide +kernel
theorem dX3_characterAt_13 : decode cX3_characterAt 13 = .ok (.goto 9, 3) := by decide +kernel
theorem dX3_characterAt_16 : decode cX3_characterAt 16 = .ok (.aload_n 0, 1) := by decide +kernel
theorem dX3_characterAt_17 : decode cX3_characterAt 17 = .ok (.getfield 11, 3) := by decide +kernel
theorem dX3_characterAt_20 : decode cX3_characterAt 20 = .ok (.iload_n 1, 1) := by decide +kernel
theorem dX3_characterAt_21 : decode cX3_characterAt 21 = .ok (.caload, 1) := by decide +kernel
theorem dX3_characterAt_22 : decode cX3_characterAt 22 = .ok (.ireturn, 1) := by decide +kernel
set_option maxRecDepth 20000 in
theorem ggX3_placeBehind_X3_placeInItem : GoodIn wsX3_placeBehind wsX3_placeInItem := goodIn_r _ [4, 5, 6, 3, 7, 8, 9, 10, 11, 12, 13] (by decide +kernel) (by decide +kernel)
set_option maxRecDepth 20000 in
theorem gX3_placeBehind_X3_placeInItem : GoodIn wsX3_placeBehind (va_wsS RX3 55 yX3_placeInItem wsX3_placeInItem) := goodIn_app (goodIn_of _ (by decide +kernel)) ggX3_placeBehind_X3_placeInItem
set_option maxRecDepth 20000 in
theorem ggX3_placeBehind_X3_placeBehindDigit : GoodIn wsX3_placeBehind wsX3_placeBehindDigit := goodIn_r _ [16, 11, 12, 3, 13, 8, 9, 10] (by decide +kernel) (by decide +kernel)
set_option maxRecDepth 20000 in
theorem gX3_placeBehind_X3_placeBehindDigit : GoodIn wsX3_placeBehind (va_wsS RX3 58 yX3_placeBehindDigit wsX3_placeBehindDigit) := goodIn_app (goodIn_of _ (by decide +kernel)) ggX3_placeBehind_X3_placeBehindDigit
set_option maxRecDepth 20000 in
theorem ggX3_placeBehind_X3_isBetween : GoodIn wsX3_placeBehind wsX3_isBetween := goodIn_r _ [10] (by decide +kernel) (by decide +kernel)
set_option maxRecDepth 20000 in
theorem gX3_placeBehind_X3_isBetween : GoodIn wsX3_placeBehind (va_wsS RX3 61 yX3_isBetween wsX3_isBetween) := goodIn_app (goodIn_of _ (by decide +kernel)) ggX3_placeBehind_X3_isBetween
set_option maxRecDepth 20000 in
theorem ggX3_placeBehind_X3_placeBehindItem : GoodIn wsX3_placeBehind wsX3_placeBehindItem := goodIn_r _ [19] (by decide +kernel) (by decide +kernel)
set_option maxRecDepth 20000 in
theorem gX3_placeBehind_X3_placeBehindItem : GoodIn wsX3_placeBehind (va_wsS RX3 65 yX3_placeBehindItem wsX3_placeBehindItem) := goodIn_app (goodIn_of _ (by decide +kernel)) ggX3_placeBehind_X3_placeBehindItem
theorem dX3_placeBehind_0 : decode cX3_placeBehind 0 = .ok (.iload_n 0, 1) := by decide +kernel
theorem dX3_placeBehind_1 : decode cX3_placeBehind 1 = .ok (.tableswitch 99 0 4 #[35, 40, 45, 60, 78], 35) := by decide +kernel
theorem dX3_placeBehind_36 : decode cX3_placeBehind 36 = .ok (.iload_n 1, 1) := by decide +kernel
theorem dX3_placeBehind_37 : decode cX3_placeBehind 37 = .ok (.invokestatic 55, 3) := by decide +kernel
theorem dX3_placeBehind_40 : decode cX3_placeBehind 40 = .ok (.ireturn, 1) := by decide +kernel
theorem dX3_placeBehind_41 : decode cX3_placeBehind 41 = .ok (.iload_n 1, 1) := by decide +kernel
theorem dX3_placeBehind_42 : decode cX3_placeBehind 42 = .ok (.invokestatic 58, 3) := by decide +kernel
theorem dX3_placeBehind_45 : decode cX3_placeBehind 45 = .ok (.ireturn, 1) := by decide +kernel
theorem dX3_placeBehind_46 : decode cX3_placeBehind 46 = .ok (.iload_n 1, 1) := by decide +kernel
theorem dX3_placeBehind_47 : decode cX3_placeBehind 47 = .ok (.bipush 40, 2) := by decide +kernel
theorem dX3_placeBehind_49 : decode cX3_placeBehind 49 = .ok (.if_icmp .ne 7, 3) := by decide +kernel
theorem dX3_placeBehind_52 : decode cX3_placeBehind 52 = .ok (.iconst 0, 1) := by decide +kernel
theorem dX3_placeBehind_53 : decode cX3_placeBehind 53 = .ok (.goto 7, 3) := by decide +kernel
theorem dX3_placeBehind_56 : decode cX3_placeBehind 56 = .ok (.iload_n 1, 1) := by decide +kernel
theorem dX3_placeBehind_57 : decode cX3_placeBehind 57 = .ok (.invokestatic 58, 3) := by decide +kernel
theorem dX3_placeBehind_60 : decode cX3_placeBehind 60 = .ok (.ireturn, 1) := by decide +kernel
theorem dX3_placeBehind_61 : decode cX3_placeBehind 61 = .ok (.iload_n 1, 1) := by decide +kernel
theorem dX3_placeBehind_62 : decode cX3_placeBehind 62 = .ok (.bipush 49, 2) := by decide +kernel
theorem dX3_placeBehind_64 : decode cX3_placeBehind 64 = .ok (.bipush 57, 2) := by decide +kernel
theorem dX3_placeBehind_66 : decode cX3_placeBehind 66 = .ok (.invokestatic 61, 3) := by decide +kernel
theorem dX3_placeBehind_69 : decode cX3_placeBehind 69 = .ok (.ifCond .eq 7, 3) := by decide +kernel
theorem dX3_placeBehind_72 : decode cX3_placeBehind 72 = .ok (.iconst 4, 1) := by decide +kernel
theorem dX3_placeBehind_73 : decode cX3_placeBehind 73 = .ok (.goto 5, 3) := by decide +kernel
theorem dX3_placeBehind_76 : decode cX3_placeBehind 76 = .ok (.bipush 6, 2) := by decide +kernel
theorem dX3_placeBehind_78 : decode cX3_placeBehind 78 = .ok (.ireturn, 1) := by decide +kernel
theorem dX3_placeBehind_79 : decode cX3_placeBehind 79 = .ok (.iload_n 1, 1) := by decide +kernel
theorem dX3_placeBehind_80 : decode cX3_placeBehind 80 = .ok (.bipush 48, 2) := by decide +kernel
theorem dX3_placeBehind_82 : decode cX3_placeBehind 82 = .ok (.bipush 57, 2) := by decide +kernel
theorem dX3_placeBehind_84 : decode cX3_placeBehind 84 = .ok (.invokestatic 61, 3) := by decide +kernel
theorem dX3_placeBehind_87 : decode cX3_placeBehind 87 = .ok (.ifCond .eq 7, 3) := by decide +kernel
theorem dX3_placeBehind_90 : decode cX3_placeBehind 90 = .ok (.iconst 5, 1) := by decide +kernel
theorem dX3_placeBehind_91 : decode cX3_placeBehind 91 = .ok (.goto 8, 3) := by decide +kernel
theorem dX3_placeBehind_94 : decode cX3_placeBehind 94 = .ok (.iload_n 1, 1) := by decide +kernel
theorem dX3_placeBehind_95 : decode cX3_placeBehind 95 = .ok (.iload_n 2, 1) := by decide +kernel
theorem dX3_placeBehind_96 : decode cX3_placeBehind 96 = .ok (.invokestatic 65, 3) := by decide +kernel
theorem dX3_placeBehind_99 : decode cX3_placeBehind 99 = .ok (.ireturn, 1) := by decide +kernel
theorem dX3_placeBehind_100 : decode cX3_placeBehind 100 = .ok (.iload_n 1, 1) := by decide +kernel
theorem dX3_placeBehind_101 : decode cX3_placeBehind 101 = .ok (.iload_n 2, 1) := by decide +kernel
theorem dX3_placeBehind_102 : decode cX3_placeBehind 102 = .ok (.invokestatic 65, 3) := by decide +kernel
theorem dX3_placeBehind_105 : decode cX3_placeBehind 105 = .ok (.ireturn, 1) := by decide +kernel
set_option maxRecDepth 20000 in
theorem ggX3_placeInItem_X3_isStretch : GoodIn wsX3_placeInItem wsX3_isStretch := goodIn_r _ [4] (by decide +kernel) (by decide +kernel)
set_option maxRecDepth 20000 in
theorem gX3_placeInItem_X3_isStretch : GoodIn wsX3_placeInItem (va_wsS RX3 69 yX3_isStretch wsX3_isStretch) := goodIn_app (goodIn_of _ (by decide +kernel)) ggX3_placeInItem_X3_isStretch
set_option maxRecDepth 20000 in
theorem ggX3_placeInItem_X3_isBetween : GoodIn wsX3_placeInItem wsX3_isBetween := goodIn_r _ [7] (by decide +kernel) (by decide +kernel)
set_option maxRecDepth 20000 in
theorem gX3_placeInItem_X3_isBetween : GoodIn wsX3_placeInItem (va_wsS RX3 61 yX3_isBetween wsX3_isBetween) := goodIn_app (goodIn_of _ (by decide +kernel)) ggX3_placeInItem_X3_isBetween
set_option maxRecDepth 20000 in
theorem ggX3_placeInItem_X3_digit : GoodIn wsX3_placeInItem wsX3_digit := goodIn_r _ [10, 5, 6, 3, 7] (by decide +kernel) (by decide +kernel)
set_option maxRecDepth 20000 in
theorem gX3_placeInItem_X3_digit : GoodIn wsX3_placeInItem (va_wsS RX3 39 yX3_digit wsX3_digit) := goodIn_app (goodIn_of _ (by decide +kernel)) ggX3_placeInItem_X3_digit
theorem dX3_placeInItem_0 : decode cX3_placeInItem 0 = .ok (.iload_n 0, 1) := by decide +kernel
theorem dX3_placeInItem_1 : decode cX3_placeInItem 1 = .ok (.invokestatic 69, 3) := by decide +kernel
theorem dX3_placeInItem_4 : decode cX3_placeInItem 4 = .ok (.ifCond .eq 5, 3) := by decide +kernel
theorem dX3_placeInItem_7 : decode cX3_placeInItem 7 = .ok (.iconst 3, 1) := by decide +kernel
theorem dX3_placeInItem_8 : decode cX3_placeInItem 8 = .ok (.ireturn, 1) := by decide +kernel
theorem dX3_placeInItem_9 : decode cX3_placeInItem 9 = .ok (.iload_n 0, 1) := by decide +kernel
theorem dX3_placeInItem_10 : decode cX3_placeInItem 10 = .ok (.bipush 50, 2) := by decide +kernel
theorem dX3_placeInItem_12 : decode cX3_placeInItem 12 = .ok (.bipush 57, 2) := by decide +kernel
theorem dX3_placeInItem_14 : decode cX3_placeInItem 14 = .ok (.invokestatic 61, 3) := by decide +kernel
theorem dX3_placeInItem_17 : decode cX3_placeInItem 17 = .ok (.ifCond .eq 5, 3) := by decide +kernel
theorem dX3_placeInItem_20 : decode cX3_placeInItem 20 = .ok (.iconst 2, 1) := by decide +kernel
theorem dX3_placeInItem_21 : decode cX3_placeInItem 21 = .ok (.ireturn, 1) := by decide +kernel
theorem dX3_placeInItem_22 : decode cX3_placeInItem 22 = .ok (.iload_n 0, 1) := by decide +kernel
theorem dX3_placeInItem_23 : decode cX3_placeInItem 23 = .ok (.invokestatic 39, 3) := by decide +kernel
theorem dX3_placeInItem_26 : decode cX3_placeInItem 26 = .ok (.bipush (-5), 2) := by decide +kernel
theorem dX3_placeInItem_28 : decode cX3_placeInItem 28 = .ok (.if_icmp .ne 8, 3) := by decide +kernel
theorem dX3_placeInItem_31 : decode cX3_placeInItem 31 = .ok (.bipush 6, 2) := by decide +kernel
theorem dX3_placeInItem_33 : decode cX3_placeInItem 33 = .ok (.goto 4, 3) := by decide +kernel
theorem dX3_placeInItem_36 : decode cX3_placeInItem 36 = .ok (.iconst 1, 1) := by decide +kernel
theorem dX3_placeInItem_37 : decode cX3_placeInItem 37 = .ok (.ireturn, 1) := by decide +kernel
set_option maxRecDepth 20000 in
theorem ggX3_placeBehindDigit_X3_digit : GoodIn wsX3_placeBehindDigit wsX3_digit := goodIn_r _ [4, 5, 6, 3, 7] (by decide +kernel) (by decide +kernel)
set_option maxRecDepth 20000 in
theorem gX3_placeBehindDigit_X3_digit : GoodIn wsX3_placeBehindDigit (va_wsS RX3 39 yX3_digit wsX3_digit) := goodIn_app (goodIn_of _ (by decide +kernel)) ggX3_placeBehindDigit_X3_digit
theorem dX3_placeBehindDigit_0 : decode cX3_placeBehindDigit 0 = .ok (.iload_n 0, 1) := by decide +kernel
theorem dX3_placeBehindDigit_1 : decode cX3_placeBehindDigit 1 = .ok (.invokestatic 39, 3) := by decide +kernel
theorem dX3_placeBehindDigit_4 : decode cX3_placeBehindDigit 4 = .ok (.bipush (-5), 2) := by decide +kernel
theorem dX3_placeBehindDigit_6 : decode cX3_placeBehindDigit 6 = .ok (.if_icmp .ne 8, 3) := by decide +kernel
theorem dX3_placeBehindDigit_9 : decode cX3_placeBehindDigit 9 = .ok (.bipush 6, 2) := by decide +kernel
theorem dX3_placeBehindDigit_11 : decode cX3_placeBehindDigit 11 = .ok (.goto 4, 3) := by decide +kernel
theorem dX3_placeBehindDigit_14 : decode cX3_placeBehindDigit 14 = .ok (.iconst 5, 1) := by decide +kernel
theorem dX3_placeBehindDigit_15 : decode cX3_placeBehindDigit 15 = .ok (.ireturn, 1) := by decide +kernel
theorem dX3_placeBehindItem_0 : decode cX3_placeBehindItem 0 = .ok (.iload_n 0, 1) := by decide +kernel
theorem dX3_placeBehindItem_1 : decode cX3_placeBehindItem 1 = .ok (.bipush 44, 2) := by decide +kernel
theorem dX3_placeBehindItem_3 : decode cX3_placeBehindItem 3 = .ok (.if_icmp .ne 5, 3) := by decide +kernel
theorem dX3_placeBehindItem_6 : decode cX3_placeBehindItem 6 = .ok (.iconst 0, 1) := by decide +kernel
theorem dX3_placeBehindItem_7 : decode cX3_placeBehindItem 7 = .ok (.ireturn, 1) := by decide +kernel
theorem dX3_placeBehindItem_8 : decode cX3_placeBehindItem 8 = .ok (.iload_n 0, 1) := by decide +kernel
theorem dX3_placeBehindItem_9 : decode cX3_placeBehindItem 9 = .ok (.bipush 41, 2) := by decide +kernel
theorem dX3_placeBehindItem_11 : decode cX3_placeBehindItem 11 = .ok (.if_icmp .ne 11, 3) := by decide +kernel
theorem dX3_placeBehindItem_14 : decode cX3_placeBehindItem 14 = .ok (.iload_n 1, 1) := by decide +kernel
theorem dX3_placeBehindItem_15 : decode cX3_placeBehindItem 15 = .ok (.ifCond .le 7, 3) := by decide +kernel
theorem dX3_placeBehindItem_18 : decode cX3_placeBehindItem 18 = .ok (.iconst 5, 1) := by decide +kernel
theorem dX3_placeBehindItem_19 : decode cX3_placeBehindItem 19 = .ok (.goto 5, 3) := by decide +kernel
theorem dX3_placeBehindItem_22 : decode cX3_placeBehindItem 22 = .ok (.bipush 6, 2) := by decide +kernel
theorem dX3_placeBehindItem_24 : decode cX3_placeBehindItem 24 = .ok (.ireturn, 1) := by decide +kernel
theorem dX3_isRepeatDue_0 : decode cX3_isRepeatDue 0 = .ok (.iload_n 1, 1) := by decide +kernel
theorem dX3_isRepeatDue_1 : decode cX3_isRepeatDue 1 = .ok (.ifCond .lt 9, 3) := by decide +kernel
theorem dX3_isRepeatDue_4 : decode cX3_isRepeatDue 4 = .ok (.iload_n 1, 1) := by decide +kernel
theorem dX3_isRepeatDue_5 : decode cX3_isRepeatDue 5 = .ok (.bipush 30, 2) := by decide +kernel
theorem dX3_isRepeatDue_7 : decode cX3_isRepeatDue 7 = .ok (.if_icmp .lt 5, 3) := by decide +kernel
theorem dX3_isRepeatDue_10 : decode cX3_isRepeatDue 10 = .ok (.iconst 0, 1) := by decide +kernel
theorem dX3_isRepeatDue_11 : decode cX3_isRepeatDue 11 = .ok (.ireturn, 1) := by decide +kernel
theorem dX3_isRepeatDue_12 : decode cX3_isRepeatDue 12 = .ok (.aload_n 0, 1) := by decide +kernel
theorem dX3_isRepeatDue_13 : decode cX3_isRepeatDue 13 = .ok (.getfield 19, 3) := by decide +kernel
theorem dX3_isRepeatDue_16 : decode cX3_isRepeatDue 16 = .ok (.iload_n 1, 1) := by decide +kernel
theorem dX3_isRepeatDue_17 : decode cX3_isRepeatDue 17 = .ok (.dup2, 1) := by decide +kernel
theorem dX3_isRepeatDue_18 : decode cX3_isRepeatDue 18 = .ok (.iaload, 1) := by decide +kernel
theorem dX3_isRepeatDue_19 : decode cX3_isRepeatDue 19 = .ok (.iconst 1, 1) := by decide +kernel
theorem dX3_isRepeatDue_20 : decode cX3_isRepeatDue 20 = .ok (.isub, 1) := by decide +kernel
theorem dX3_isRepeatDue_21 : decode cX3_isRepeatDue 21 = .ok (.iastore, 1) := by decide +kernel
theorem dX3_isRepeatDue_22 : decode cX3_isRepeatDue 22 = .ok (.aload_n 0, 1) := by decide +kernel
theorem dX3_isRepeatDue_23 : decode cX3_isRepeatDue 23 = .ok (.getfield 19, 3) := by decide +kernel
theorem dX3_isRepeatDue_26 : decode cX3_isRepeatDue 26 = .ok (.iload_n 1, 1) := by decide +kernel
theorem dX3_isRepeatDue_27 : decode cX3_isRepeatDue 27 = .ok (.iaload, 1) := by decide +kernel
theorem dX3_isRepeatDue_28 : decode cX3_isRepeatDue 28 = .ok (.ifCond .le 7, 3) := by decide +kernel
theorem dX3_isRepeatDue_31 : decode cX3_isRepeatDue 31 = .ok (.iconst 1, 1) := by decide +kernel
theorem dX3_isRepeatDue_32 : decode cX3_isRepeatDue 32 = .ok (.goto 4, 3) := by decide +kernel
theorem dX3_isRepeatDue_35 : decode cX3_isRepeatDue 35 = .ok (.iconst 0, 1) := by decide +kernel
theorem dX3_isRepeatDue_36 : decode cX3_isRepeatDue 36 = .ok (.ireturn, 1) := by decide +kernel
theorem dX3_beginRepeat_0 : decode cX3_beginRepeat 0 = .ok (.iload_n 1, 1) := by decide +kernel
theorem dX3_beginRepeat_1 : decode cX3_beginRepeat 1 = .ok (.ifCond .lt 9, 3) := by decide +kernel
theorem dX3_beginRepeat_4 : decode cX3_beginRepeat 4 = .ok (.iload_n 1, 1) := by decide +kernel
theorem dX3_beginRepeat_5 : decode cX3_beginRepeat 5 = .ok (.bipush 30, 2) := by decide +kernel
theorem dX3_beginRepeat_7 : decode cX3_beginRepeat 7 = .ok (.if_icmp .lt 5, 3) := by decide +kernel
theorem dX3_beginRepeat_10 : decode cX3_beginRepeat 10 = .ok (.iconst 0, 1) := by decide +kernel
theorem dX3_beginRepeat_11 : decode cX3_beginRepeat 11 = .ok (.ireturn, 1) := by decide +kernel
theorem dX3_beginRepeat_12 : decode cX3_beginRepeat 12 = .ok (.aload_n 0, 1) := by decide +kernel
theorem dX3_beginRepeat_13 : decode cX3_beginRepeat 13 = .ok (.getfield 15, 3) := by decide +kernel
theorem dX3_beginRepeat_16 : decode cX3_beginRepeat 16 = .ok (.iload_n 1, 1) := by decide +kernel
theorem dX3_beginRepeat_17 : decode cX3_beginRepeat 17 = .ok (.iload_n 2, 1) := by decide +kernel
theorem dX3_beginRepeat_18 : decode cX3_beginRepeat 18 = .ok (.iastore, 1) := by decide +kernel
theorem dX3_beginRepeat_19 : decode cX3_beginRepeat 19 = .ok (.aload_n 0, 1) := by decide +kernel
theorem dX3_beginRepeat_20 : decode cX3_beginRepeat 20 = .ok (.getfield 19, 3) := by decide +kernel
theorem dX3_beginRepeat_23 : decode cX3_beginRepeat 23 = .ok (.iload_n 1, 1) := by decide +kernel
theorem dX3_beginRepeat_24 : decode cX3_beginRepeat 24 = .ok (.iload_n 3, 1) := by decide +kernel
theorem dX3_beginRepeat_25 : decode cX3_beginRepeat 25 = .ok (.iastore, 1) := by decide +kernel
theorem dX3_beginRepeat_26 : decode cX3_beginRepeat 26 = .ok (.iconst 1, 1) := by decide +kernel
theorem dX3_beginRepeat_27 : decode cX3_beginRepeat 27 = .ok (.ireturn, 1) := by decide +kernel
set_option maxRecDepth 20000 in
theorem ggX3_sendItem_X3_characterAt : GoodIn wsX3_sendItem wsX3_characterAt := goodIn_r _ [5, 6, 7, 70, 71, 72, 73] (by decide +kernel) (by decide +kernel)
set_option maxRecDepth 20000 in
theorem gX3_sendItem_X3_characterAt : GoodIn wsX3_sendItem (wsV RX3 26 RX3 yX3_characterAt wsX3_characterAt) := goodIn_app (goodIn_of _ (by decide +kernel)) ggX3_sendItem_X3_characterAt
set_option maxRecDepth 20000 in
theorem ggX3_sendItem_X3_isStretch : GoodIn wsX3_sendItem wsX3_isStretch := goodIn_r _ [10] (by decide +kernel) (by decide +kernel)
set_option maxRecDepth 20000 in
theorem gX3_sendItem_X3_isStretch : GoodIn wsX3_sendItem (va_wsS RX3 69 yX3_isStretch wsX3_isStretch) := goodIn_app (goodIn_of _ (by decide +kernel)) ggX3_sendItem_X3_isStretch
set_option maxRecDepth 20000 in
theorem ggX3_sendItem_X3_numberAt : GoodIn wsX3_sendItem wsX3_numberAt := goodIn_r _ [14, 1, 2, 3, 4, 5, 6, 7, 15, 16, 17, 18, 19, 20, 70, 71, 72, 73] (by decide +kernel) (by decide +kernel)
set_option maxRecDepth 20000 in
theorem gX3_sendItem_X3_numberAt : GoodIn wsX3_sendItem (wsV RX3 73 RX3 yX3_numberAt wsX3_numberAt) := goodIn_app (goodIn_of _ (by decide +kernel)) ggX3_sendItem_X3_numberAt
set_option maxRecDepth 20000 in
theorem ggX3_sendItem_X2_addStretch : GoodIn wsX3_sendItem wsX2_addStretch := goodIn_r _ [25, 26, 27, 28, 29, 24, 30, 31, 32, 33, 34, 35, 36, 37, 38, 39, 40, 74, 75, 76, 77, 78] (by decide +kernel) (by decide +kernel)
set_option maxRecDepth 20000 in
theorem gX3_sendItem_X2_addStretch : GoodIn wsX3_sendItem (wsV RX3 76 RX2 yX2_addStretch wsX2_addStretch) := goodIn_app (goodIn_of _ (by decide +kernel)) ggX3_sendItem_X2_addStretch
set_option maxRecDepth 20000 in
theorem ggX3_sendItem_X3_digit : GoodIn wsX3_sendItem wsX3_digit := goodIn_r _ [17, 18, 19, 4, 20] (by decide +kernel) (by decide +kernel)
set_option maxRecDepth 20000 in
theorem gX3_sendItem_X3_digit : GoodIn wsX3_sendItem (va_wsS RX3 39 yX3_digit wsX3_digit) := goodIn_app (goodIn_of _ (by decide +kernel)) ggX3_sendItem_X3_digit
set_option maxRecDepth 20000 in
theorem ggX3_sendItem_X2_addWord : GoodIn wsX3_sendItem wsX2_addWord := goodIn_r _ [44, 45, 46, 26, 47, 48, 49, 50, 24, 51, 52, 53, 54, 55, 27, 28, 29, 30, 56, 57, 58, 59, 60, 61, 62, 63, 64, 65, 66, 67, 68, 69, 31, 32, 33, 34, 35, 36, 37, 38, 39, 40, 74, 75, 76, 77, 78] (by decide +kernel) (by decide +kernel)
set_option maxRecDepth 20000 in
theorem gX3_sendItem_X2_addWord : GoodIn wsX3_sendItem (wsV RX3 82 RX2 yX2_addWord wsX2_addWord) := goodIn_app (goodIn_of _ (by decide +kernel)) ggX3_sendItem_X2_addWord
theorem dX3_sendItem_0 : decode cX3_sendItem 0 = .ok (.aload_n 0, 1) := by decide +kernel
theorem dX3_sendItem_1 : decode cX3_sendItem 1 = .ok (.iload_n 2, 1) := by decide +kernel
theorem dX3_sendItem_2 : decode cX3_sendItem 2 = .ok (.invokevirtual 26, 3) := by decide +kernel
theorem dX3_sendItem_5 : decode cX3_sendItem 5 = .ok (.istore_n 3, 1) := by decide +kernel
theorem dX3_sendItem_6 : decode cX3_sendItem 6 = .ok (.iload_n 3, 1) := by decide +kernel
theorem dX3_sendItem_7 : decode cX3_sendItem 7 = .ok (.invokestatic 69, 3) := by decide +kernel
theorem dX3_sendItem_10 : decode cX3_sendItem 10 = .ok (.ifCond .eq 26, 3) := by decide +kernel
theorem dX3_sendItem_13 : decode cX3_sendItem 13 = .ok (.aload_n 1, 1) := by decide +kernel
theorem dX3_sendItem_14 : decode cX3_sendItem 14 = .ok (.iload_n 3, 1) := by decide +kernel
theorem dX3_sendItem_15 : decode cX3_sendItem 15 = .ok (.bipush 46, 2) := by decide +kernel
theorem dX3_sendItem_17 : decode cX3_sendItem 17 = .ok (.if_icmp .ne 7, 3) := by decide +kernel
theorem dX3_sendItem_20 : decode cX3_sendItem 20 = .ok (.iconst 1, 1) := by decide +kernel
theorem dX3_sendItem_21 : decode cX3_sendItem 21 = .ok (.goto 4, 3) := by decide +kernel
theorem dX3_sendItem_24 : decode cX3_sendItem 24 = .ok (.iconst 0, 1) := by decide +kernel
theorem dX3_sendItem_25 : decode cX3_sendItem 25 = .ok (.aload_n 0, 1) := by decide +kernel
theorem dX3_sendItem_26 : decode cX3_sendItem 26 = .ok (.iload_n 2, 1) := by decide +kernel
theorem dX3_sendItem_27 : decode cX3_sendItem 27 = .ok (.iconst 1, 1) := by decide +kernel
theorem dX3_sendItem_28 : decode cX3_sendItem 28 = .ok (.iadd, 1) := by decide +kernel
theorem dX3_sendItem_29 : decode cX3_sendItem 29 = .ok (.invokevirtual 73, 3) := by decide +kernel
theorem dX3_sendItem_32 : decode cX3_sendItem 32 = .ok (.invokevirtual 76, 3) := by decide +kernel
theorem dX3_sendItem_35 : decode cX3_sendItem 35 = .ok (.ireturn, 1) := by decide +kernel
theorem dX3_sendItem_36 : decode cX3_sendItem 36 = .ok (.aload_n 1, 1) := by decide +kernel
theorem dX3_sendItem_37 : decode cX3_sendItem 37 = .ok (.iload_n 3, 1) := by decide +kernel
theorem dX3_sendItem_38 : decode cX3_sendItem 38 = .ok (.invokestatic 39, 3) := by decide +kernel
theorem dX3_sendItem_41 : decode cX3_sendItem 41 = .ok (.bipush 16, 2) := by decide +kernel
theorem dX3_sendItem_43 : decode cX3_sendItem 43 = .ok (.imul, 1) := by decide +kernel
theorem dX3_sendItem_44 : decode cX3_sendItem 44 = .ok (.aload_n 0, 1) := by decide +kernel
theorem dX3_sendItem_45 : decode cX3_sendItem 45 = .ok (.iload_n 2, 1) := by decide +kernel
theorem dX3_sendItem_46 : decode cX3_sendItem 46 = .ok (.iconst 1, 1) := by decide +kernel
theorem dX3_sendItem_47 : decode cX3_sendItem 47 = .ok (.iadd, 1) := by decide +kernel
theorem dX3_sendItem_48 : decode cX3_sendItem 48 = .ok (.invokevirtual 26, 3) := by decide +kernel
theorem dX3_sendItem_51 : decode cX3_sendItem 51 = .ok (.invokestatic 39, 3) := by decide +kernel
theorem dX3_sendItem_54 : decode cX3_sendItem 54 = .ok (.iadd, 1) := by decide +kernel
theorem dX3_sendItem_55 : decode cX3_sendItem 55 = .ok (.invokevirtual 82, 3) := by decide +kernel
theorem dX3_sendItem_58 : decode cX3_sendItem 58 = .ok (.ireturn, 1) := by decide +kernel
set_option maxRecDepth 20000 in
theorem ggX3_widthOfItem_X3_characterAt : GoodIn wsX3_widthOfItem wsX3_characterAt := goodIn_r _ [5, 6, 7, 17, 18, 19, 20] (by decide +kernel) (by decide +kernel)
set_option maxRecDepth 20000 in
theorem gX3_widthOfItem_X3_characterAt : GoodIn wsX3_widthOfItem (wsV RX3 26 RX3 yX3_characterAt wsX3_characterAt) := goodIn_app (goodIn_of _ (by decide +kernel)) ggX3_widthOfItem_X3_characterAt
set_option maxRecDepth 20000 in
theorem ggX3_widthOfItem_X3_isStretch : GoodIn wsX3_widthOfItem wsX3_isStretch := goodIn_r _ [10] (by decide +kernel) (by decide +kernel)
set_option maxRecDepth 20000 in
theorem gX3_widthOfItem_X3_isStretch : GoodIn wsX3_widthOfItem (va_wsS RX3 69 yX3_isStretch wsX3_isStretch) := goodIn_app (goodIn_of _ (by decide +kernel)) ggX3_widthOfItem_X3_isStretch
set_option maxRecDepth 20000 in
theorem ggX3_widthOfItem_X3_digit : GoodIn wsX3_widthOfItem wsX3_digit := goodIn_r _ [13, 14, 15, 4, 16] (by decide +kernel) (by decide +kernel)
set_option maxRecDepth 20000 in
theorem gX3_widthOfItem_X3_digit : GoodIn wsX3_widthOfItem (va_wsS RX3 39 yX3_digit wsX3_digit) := goodIn_app (goodIn_of _ (by decide +kernel)) ggX3_widthOfItem_X3_digit
theorem dX3_widthOfItem_0 : decode cX3_widthOfItem 0 = .ok (.aload_n 0, 1) := by decide +kernel
theorem dX3_widthOfItem_1 : decode cX3_widthOfItem 1 = .ok (.iload_n 1, 1) := by decide +kernel
theorem dX3_widthOfItem_2 : decode cX3_widthOfItem 2 = .ok (.invokevirtual 26, 3) := by decide +kernel
theorem dX3_widthOfItem_5 : decode cX3_widthOfItem 5 = .ok (.invokestatic 69, 3) := by decide +kernel
theorem dX3_widthOfItem_8 : decode cX3_widthOfItem 8 = .ok (.ifCond .eq 22, 3) := by decide +kernel
theorem dX3_widthOfItem_11 : decode cX3_widthOfItem 11 = .ok (.aload_n 0, 1) := by decide +kernel
theorem dX3_widthOfItem_12 : decode cX3_widthOfItem 12 = .ok (.iload_n 1, 1) := by decide +kernel
theorem dX3_widthOfItem_13 : decode cX3_widthOfItem 13 = .ok (.iconst 2, 1) := by decide +kernel
theorem dX3_widthOfItem_14 : decode cX3_widthOfItem 14 = .ok (.iadd, 1) := by decide +kernel
theorem dX3_widthOfItem_15 : decode cX3_widthOfItem 15 = .ok (.invokevirtual 26, 3) := by decide +kernel
theorem dX3_widthOfItem_18 : decode cX3_widthOfItem 18 = .ok (.invokestatic 39, 3) := by decide +kernel
theorem dX3_widthOfItem_21 : decode cX3_widthOfItem 21 = .ok (.bipush (-5), 2) := by decide +kernel
theorem dX3_widthOfItem_23 : decode cX3_widthOfItem 23 = .ok (.if_icmp .eq 7, 3) := by decide +kernel
theorem dX3_widthOfItem_26 : decode cX3_widthOfItem 26 = .ok (.iconst 1, 1) := by decide +kernel
theorem dX3_widthOfItem_27 : decode cX3_widthOfItem 27 = .ok (.goto 4, 3) := by decide +kernel
theorem dX3_widthOfItem_30 : decode cX3_widthOfItem 30 = .ok (.iconst 0, 1) := by decide +kernel
theorem dX3_widthOfItem_31 : decode cX3_widthOfItem 31 = .ok (.istore_n 2, 1) := by decide +kernel
theorem dX3_widthOfItem_32 : decode cX3_widthOfItem 32 = .ok (.iload_n 2, 1) := by decide +kernel
theorem dX3_widthOfItem_33 : decode cX3_widthOfItem 33 = .ok (.ifCond .eq 7, 3) := by decide +kernel
theorem dX3_widthOfItem_36 : decode cX3_widthOfItem 36 = .ok (.iconst 3, 1) := by decide +kernel
theorem dX3_widthOfItem_37 : decode cX3_widthOfItem 37 = .ok (.goto 4, 3) := by decide +kernel
theorem dX3_widthOfItem_40 : decode cX3_widthOfItem 40 = .ok (.iconst 2, 1) := by decide +kernel
theorem dX3_widthOfItem_41 : decode cX3_widthOfItem 41 = .ok (.ireturn, 1) := by decide +kernel
set_option maxRecDepth 20000 in
theorem ggX3_numberAt_X3_characterAt : GoodIn wsX3_numberAt wsX3_characterAt := goodIn_r _ [5, 6, 7, 14, 15, 16, 17] (by decide +kernel) (by decide +kernel)
set_option maxRecDepth 20000 in
theorem gX3_numberAt_X3_characterAt : GoodIn wsX3_numberAt (wsV RX3 26 RX3 yX3_characterAt wsX3_characterAt) := goodIn_app (goodIn_of _ (by decide +kernel)) ggX3_numberAt_X3_characterAt
set_option maxRecDepth 20000 in
theorem ggX3_numberAt_X3_digit : GoodIn wsX3_numberAt wsX3_digit := goodIn_r _ [10, 11, 12, 4, 13] (by decide +kernel) (by decide +kernel)
set_option maxRecDepth 20000 in
theorem gX3_numberAt_X3_digit : GoodIn wsX3_numberAt (va_wsS RX3 39 yX3_digit wsX3_digit) := goodIn_app (goodIn_of _ (by decide +kernel)) ggX3_numberAt_X3_digit
theorem dX3_numberAt_0 : decode cX3_numberAt 0 = .ok (.aload_n 0, 1) := by decide +kernel
theorem dX3_numberAt_1 : decode cX3_numberAt 1 = .ok (.iload_n 1, 1) := by decide +kernel
theorem dX3_numberAt_2 : decode cX3_numberAt 2 = .ok (.invokevirtual 26, 3) := by decide +kernel
theorem dX3_numberAt_5 : decode cX3_numberAt 5 = .ok (.invokestatic 39, 3) := by decide +kernel
theorem dX3_numberAt_8 : decode cX3_numberAt 8 = .ok (.istore_n 2, 1) := by decide +kernel
theorem dX3_numberAt_9 : decode cX3_numberAt 9 = .ok (.aload_n 0, 1) := by decide +kernel
theorem dX3_numberAt_10 : decode cX3_numberAt 10 = .ok (.iload_n 1, 1) := by decide +kernel
theorem dX3_numberAt_11 : decode cX3_numberAt 11 = .ok (.iconst 1, 1) := by decide +kernel
theorem dX3_numberAt_12 : decode cX3_numberAt 12 = .ok (.iadd, 1) := by decide +kernel
theorem dX3_numberAt_13 : decode cX3_numberAt 13 = .ok (.invokevirtual 26, 3) := by decide +kernel
theorem dX3_numberAt_16 : decode cX3_numberAt 16 = .ok (.invokestatic 39, 3) := by decide +kernel
theorem dX3_numberAt_19 : decode cX3_numberAt 19 = .ok (.istore_n 3, 1) := by decide +kernel
theorem dX3_numberAt_20 : decode cX3_numberAt 20 = .ok (.iload_n 3, 1) := by decide +kernel
theorem dX3_numberAt_21 : decode cX3_numberAt 21 = .ok (.bipush (-5), 2) := by decide +kernel
theorem dX3_numberAt_23 : decode cX3_numberAt 23 = .ok (.if_icmp .ne 7, 3) := by decide +kernel
theorem dX3_numberAt_26 : decode cX3_numberAt 26 = .ok (.iload_n 2, 1) := by decide +kernel
theorem dX3_numberAt_27 : decode cX3_numberAt 27 = .ok (.goto 9, 3) := by decide +kernel
theorem dX3_numberAt_30 : decode cX3_numberAt 30 = .ok (.iload_n 2, 1) := by decide +kernel
theorem dX3_numberAt_31 : decode cX3_numberAt 31 = .ok (.bipush 10, 2) := by decide +kernel
theorem dX3_numberAt_33 : decode cX3_numberAt 33 = .ok (.imul, 1) := by decide +kernel
theorem dX3_numberAt_34 : decode cX3_numberAt 34 = .ok (.iload_n 3, 1) := by decide +kernel
theorem dX3_numberAt_35 : decode cX3_numberAt 35 = .ok (.iadd, 1) := by decide +kernel
theorem dX3_numberAt_36 : decode cX3_numberAt 36 = .ok (.ireturn, 1) := by decide +kernel
theorem dX3_isStretch_0 : decode cX3_isStretch 0 = .ok (.iload_n 0, 1) := by decide +kernel
theorem dX3_isStretch_1 : decode cX3_isStretch 1 = .ok (.bipush 46, 2) := by decide +kernel
theorem dX3_isStretch_3 : decode cX3_isStretch 3 = .ok (.if_icmp .eq 9, 3) := by decide +kernel
theorem dX3_isStretch_6 : decode cX3_isStretch 6 = .ok (.iload_n 0, 1) := by decide +kernel
theorem dX3_isStretch_7 : decode cX3_isStretch 7 = .ok (.bipush 95, 2) := by decide +kernel
theorem dX3_isStretch_9 : decode cX3_isStretch 9 = .ok (.if_icmp .ne 7, 3) := by decide +kernel
theorem dX3_isStretch_12 : decode cX3_isStretch 12 = .ok (.iconst 1, 1) := by decide +kernel
theorem dX3_isStretch_13 : decode cX3_isStretch 13 = .ok (.goto 4, 3) := by decide +kernel
theorem dX3_isStretch_16 : decode cX3_isStretch 16 = .ok (.iconst 0, 1) := by decide +kernel
theorem dX3_isStretch_17 : decode cX3_isStretch 17 = .ok (.ireturn, 1) := by decide +kernel
theorem dX3_isBetween_0 : decode cX3_isBetween 0 = .ok (.iload_n 0, 1) := by decide +kernel
theorem dX3_isBetween_1 : decode cX3_isBetween 1 = .ok (.iload_n 1, 1) := by decide +kernel
theorem dX3_isBetween_2 : decode cX3_isBetween 2 = .ok (.if_icmp .lt 12, 3) := by decide +kernel
theorem dX3_isBetween_5 : decode cX3_isBetween 5 = .ok (.iload_n 0, 1) := by decide +kernel
theorem dX3_isBetween_6 : decode cX3_isBetween 6 = .ok (.iload_n 2, 1) := by decide +kernel
theorem dX3_isBetween_7 : decode cX3_isBetween 7 = .ok (.if_icmp .gt 7, 3) := by decide +kernel
theorem dX3_isBetween_10 : decode cX3_isBetween 10 = .ok (.iconst 1, 1) := by decide +kernel
theorem dX3_isBetween_11 : decode cX3_isBetween 11 = .ok (.goto 4, 3) := by decide +kernel
theorem dX3_isBetween_14 : decode cX3_isBetween 14 = .ok (.iconst 0, 1) := by decide +kernel
theorem dX3_isBetween_15 : decode cX3_isBetween 15 = .ok (.ireturn, 1) := by decide +kernel
set_option maxRecDepth 20000 in
theorem ggX3_digit_X3_isBetween : GoodIn wsX3_digit wsX3_isBetween := goodIn_r _ [4] (by decide +kernel) (by decide +kernel)
set_option maxRecDepth 20000 in
theorem gX3_digit_X3_isBetween : GoodIn wsX3_digit (va_wsS RX3 61 yX3_isBetween wsX3_isBetween) := goodIn_app (goodIn_of _ (by decide +kernel)) ggX3_digit_X3_isBetween
theorem dX3_digit_0 : decode cX3_digit 0 = .ok (.iload_n 0, 1) := by decide +kernel
theorem dX3_digit_1 : decode cX3_digit 1 = .ok (.bipush 48, 2) := by decide +kernel
theorem dX3_digit_3 : decode cX3_digit 3 = .ok (.bipush 57, 2) := by decide +kernel
theorem dX3_digit_5 : decode cX3_digit 5 = .ok (.invokestatic 61, 3) := by decide +kernel
theorem dX3_digit_8 : decode cX3_digit 8 = .ok (.ifCond .eq 8, 3) := by decide +kernel
theorem dX3_digit_11 : decode cX3_digit 11 = .ok (.iload_n 0, 1) := by decide +kernel
theorem dX3_digit_12 : decode cX3_digit 12 = .ok (.bipush 48, 2) := by decide +kernel
theorem dX3_digit_14 : decode cX3_digit 14 = .ok (.isub, 1) := by decide +kernel
theorem dX3_digit_15 : decode cX3_digit 15 = .ok (.ireturn, 1) := by decide +kernel
theorem dX3_digit_16 : decode cX3_digit 16 = .ok (.iload_n 0, 1) := by decide +kernel
theorem dX3_digit_17 : decode cX3_digit 17 = .ok (.bipush 97, 2) := by decide +kernel
theorem dX3_digit_19 : decode cX3_digit 19 = .ok (.bipush 102, 2) := by decide +kernel
theorem dX3_digit_21 : decode cX3_digit 21 = .ok (.invokestatic 61, 3) := by decide +kernel
theorem dX3_digit_24 : decode cX3_digit 24 = .ok (.ifCond .eq 13, 3) := by decide +kernel
theorem dX3_digit_27 : decode cX3_digit 27 = .ok (.iload_n 0, 1) := by decide +kernel
theorem dX3_digit_28 : decode cX3_digit 28 = .ok (.bipush 97, 2) := by decide +kernel
theorem dX3_digit_30 : decode cX3_digit 30 = .ok (.isub, 1) := by decide +kernel
theorem dX3_digit_31 : decode cX3_digit 31 = .ok (.bipush 10, 2) := by decide +kernel
theorem dX3_digit_33 : decode cX3_digit 33 = .ok (.iadd, 1) := by decide +kernel
theorem dX3_digit_34 : decode cX3_digit 34 = .ok (.goto 5, 3) := by decide +kernel
theorem dX3_digit_37 : decode cX3_digit 37 = .ok (.bipush (-5), 2) := by decide +kernel
theorem dX3_digit_39 : decode cX3_digit 39 = .ok (.ireturn, 1) := by decide +kernel
set_option maxRecDepth 20000 in
theorem ggX4_init_X2_init : GoodIn wsX4_init wsX2_init := goodIn_r _ [23, 24, 2, 3, 25, 26, 27, 28, 29, 30, 31, 32, 33, 34, 35, 36, 37, 38, 61, 62, 63, 64, 65] (by decide +kernel) (by decide +kernel)
set_option maxRecDepth 20000 in
theorem gX4_init_X2_init : GoodIn wsX4_init (wsX2_init) := ggX4_init_X2_init
set_option maxRecDepth 20000 in
theorem ggX4_init_X1_init : GoodIn wsX4_init wsX1_init := goodIn_r _ [41, 42, 2, 3, 43, 27, 44, 71, 72, 73, 74] (by decide +kernel) (by decide +kernel)
set_option maxRecDepth 20000 in
theorem gX4_init_X1_init : GoodIn wsX4_init (wsX1_init) := ggX4_init_X1_init
set_option maxRecDepth 20000 in
theorem ggX4_init_X3_init : GoodIn wsX4_init wsX3_init := goodIn_r _ [47, 48, 2, 3, 49, 50, 27, 51, 52, 75, 76, 77, 78] (by decide +kernel) (by decide +kernel)
set_option maxRecDepth 20000 in
theorem gX4_init_X3_init : GoodIn wsX4_init (wsX3_init) := ggX4_init_X3_init
set_option maxRecDepth 20000 in
theorem ggX4_init_X0_init : GoodIn wsX4_init wsX0_init := goodIn_r _ [55, 56, 2, 3, 57, 58, 5, 6, 59, 60, 22, 23, 24, 25, 26, 27, 28, 29, 30, 31, 32, 33, 34, 35, 36, 37, 38, 79, 80, 81, 82, 61, 62, 63, 64, 65] (by decide +kernel) (by decide +kernel)
set_option maxRecDepth 20000 in
theorem gX4_init_X0_init : GoodIn wsX4_init (wsX0_init) := ggX4_init_X0_init
theorem dX4_init_0 : decode cX4_init 0 = .ok (.aload_n 0, 1) := by decide +kernel
theorem dX4_init_1 : decode cX4_init 1 = .ok (.invokespecial 3, 3) := by decide +kernel
theorem dX4_init_4 : decode cX4_init 4 = .ok (.aload_n 0, 1) := by decide +kernel
theorem dX4_init_5 : decode cX4_init 5 = .ok (.new 9, 3) := by decide +kernel
theorem dX4_init_8 : decode cX4_init 8 = .ok (.dup, 1) := by decide +kernel
theorem dX4_init_9 : decode cX4_init 9 = .ok (.invokespecial 11, 3) := by decide +kernel
theorem dX4_init_12 : decode cX4_init 12 = .ok (.putfield 12, 3) := by decide +kernel
theorem dX4_init_15 : decode cX4_init 15 = .ok (.aload_n 0, 1) := by decide +kernel
theorem dX4_init_16 : decode cX4_init 16 = .ok (.new 9, 3) := by decide +kernel
theorem dX4_init_19 : decode cX4_init 19 = .ok (.dup, 1) := by decide +kernel
theorem dX4_init_20 : decode cX4_init 20 = .ok (.invokespecial 11, 3) := by decide +kernel
theorem dX4_init_23 : decode cX4_init 23 = .ok (.putfield 16, 3) := by decide +kernel
theorem dX4_init_26 : decode cX4_init 26 = .ok (.aload_n 0, 1) := by decide +kernel
theorem dX4_init_27 : decode cX4_init 27 = .ok (.new 19, 3) := by decide +kernel
theorem dX4_init_30 : decode cX4_init 30 = .ok (.dup, 1) := by decide +kernel
theorem dX4_init_31 : decode cX4_init 31 = .ok (.invokespecial 21, 3) := by decide +kernel
theorem dX4_init_34 : decode cX4_init 34 = .ok (.putfield 22, 3) := by decide +kernel
theorem dX4_init_37 : decode cX4_init 37 = .ok (.aload_n 0, 1) := by decide +kernel
theorem dX4_init_38 : decode cX4_init 38 = .ok (.new 26, 3) := by decide +kernel
theorem dX4_init_41 : decode cX4_init 41 = .ok (.dup, 1) := by decide +kernel
theorem dX4_init_42 : decode cX4_init 42 = .ok (.invokespecial 28, 3) := by decide +kernel
theorem dX4_init_45 : decode cX4_init 45 = .ok (.putfield 29, 3) := by decide +kernel
theorem dX4_init_48 : decode cX4_init 48 = .ok (.aload_n 0, 1) := by decide +kernel
theorem dX4_init_49 : decode cX4_init 49 = .ok (.new 33, 3) := by decide +kernel
theorem dX4_init_52 : decode cX4_init 52 = .ok (.dup, 1) := by decide +kernel
theorem dX4_init_53 : decode cX4_init 53 = .ok (.invokespecial 35, 3) := by decide +kernel
theorem dX4_init_56 : decode cX4_init 56 = .ok (.putfield 36, 3) := by decide +kernel
theorem dX4_init_59 : decode cX4_init 59 = .ok (.return_, 1) := by decide +kernel
set_option maxRecDepth 20000 in
theorem ggX4_send_X4_isWord : GoodIn wsX4_send wsX4_isWord := goodIn_r _ [6] (by decide +kernel) (by decide +kernel)
set_option maxRecDepth 20000 in
theorem gX4_send_X4_isWord : GoodIn wsX4_send (va_wsS RX4 40 yX4_isWord wsX4_isWord) := goodIn_app (goodIn_of _ (by decide +kernel)) ggX4_send_X4_isWord
set_option maxRecDepth 20000 in
theorem ggX4_send_X2_ticksOfWord : GoodIn wsX4_send wsX2_ticksOfWord := goodIn_r _ [11, 12, 13, 14, 15, 10, 16, 81, 82, 83, 84, 85] (by decide +kernel) (by decide +kernel)
set_option maxRecDepth 20000 in
theorem gX4_send_X2_ticksOfWord : GoodIn wsX4_send (wsV RX4 44 RX2 yX2_ticksOfWord wsX2_ticksOfWord) := goodIn_app (goodIn_of _ (by decide +kernel)) ggX4_send_X2_ticksOfWord
set_option maxRecDepth 20000 in
theorem ggX4_send_X2_hasRoom : GoodIn wsX4_send wsX2_hasRoom := goodIn_r _ [20, 21, 81, 82, 83, 84, 85] (by decide +kernel) (by decide +kernel)
set_option maxRecDepth 20000 in
theorem gX4_send_X2_hasRoom : GoodIn wsX4_send (wsV RX4 48 RX2 yX2_hasRoom wsX2_hasRoom) := goodIn_app (goodIn_of _ (by decide +kernel)) ggX4_send_X2_hasRoom
set_option maxRecDepth 20000 in
theorem ggX4_send_X0_remember : GoodIn wsX4_send wsX0_remember := goodIn_r _ [26, 27, 28, 29, 30, 31, 25, 32, 33, 34, 35, 10, 36, 37, 38, 39, 40, 41, 42, 12, 21, 43, 86, 87, 88, 89, 81, 82, 83, 84, 85] (by decide +kernel) (by decide +kernel)
set_option maxRecDepth 20000 in
theorem gX4_send_X0_remember : GoodIn wsX4_send (wsV RX4 51 RX0 yX0_remember wsX0_remember) := goodIn_app (goodIn_of _ (by decide +kernel)) ggX4_send_X0_remember
set_option maxRecDepth 20000 in
theorem ggX4_send_X2_addWord : GoodIn wsX4_send wsX2_addWord := goodIn_r _ [47, 43, 12, 21, 42, 48, 8, 9, 10, 11, 13, 14, 15, 16, 49, 18, 19, 20, 50, 51, 52, 53, 54, 5, 55, 56, 57, 58, 59, 60, 61, 62, 63, 64, 65, 66, 67, 68, 69, 70, 37, 71, 81, 82, 83, 84, 85] (by decide +kernel) (by decide +kernel)
set_option maxRecDepth 20000 in
theorem gX4_send_X2_addWord : GoodIn wsX4_send (wsV RX4 55 RX2 yX2_addWord wsX2_addWord) := goodIn_app (goodIn_of _ (by decide +kernel)) ggX4_send_X2_addWord
set_option maxRecDepth 20000 in
theorem ggX4_send_X2_end : GoodIn wsX4_send wsX2_end := goodIn_r _ [75, 21, 81, 82, 83, 84, 85] (by decide +kernel) (by decide +kernel)
set_option maxRecDepth 20000 in
theorem gX4_send_X2_end : GoodIn wsX4_send (wsV RX4 58 RX2 yX2_end wsX2_end) := goodIn_app (goodIn_of _ (by decide +kernel)) ggX4_send_X2_end
theorem dX4_send_0 : decode cX4_send 0 = .ok (.iload_n 1, 1) := by decide +kernel
theorem dX4_send_1 : decode cX4_send 1 = .ok (.invokestatic 40, 3) := by decide +kernel
theorem dX4_send_4 : decode cX4_send 4 = .ok (.ifCond .ne 6, 3) := by decide +kernel
theorem dX4_send_7 : decode cX4_send 7 = .ok (.bipush (-2), 2) := by decide +kernel
theorem dX4_send_9 : decode cX4_send 9 = .ok (.ireturn, 1) := by decide +kernel
theorem dX4_send_10 : decode cX4_send 10 = .ok (.aload_n 0, 1) := by decide +kernel
theorem dX4_send_11 : decode cX4_send 11 = .ok (.getfield 12, 3) := by decide +kernel
theorem dX4_send_14 : decode cX4_send 14 = .ok (.aload_n 0, 1) := by decide +kernel
theorem dX4_send_15 : decode cX4_send 15 = .ok (.getfield 12, 3) := by decide +kernel
theorem dX4_send_18 : decode cX4_send 18 = .ok (.invokevirtual 44, 3) := by decide +kernel
theorem dX4_send_21 : decode cX4_send 21 = .ok (.invokevirtual 48, 3) := by decide +kernel
theorem dX4_send_24 : decode cX4_send 24 = .ok (.ifCond .ne 6, 3) := by decide +kernel
theorem dX4_send_27 : decode cX4_send 27 = .ok (.bipush (-3), 2) := by decide +kernel
theorem dX4_send_29 : decode cX4_send 29 = .ok (.ireturn, 1) := by decide +kernel
theorem dX4_send_30 : decode cX4_send 30 = .ok (.aload_n 0, 1) := by decide +kernel
theorem dX4_send_31 : decode cX4_send 31 = .ok (.getfield 36, 3) := by decide +kernel
theorem dX4_send_34 : decode cX4_send 34 = .ok (.aload_n 0, 1) := by decide +kernel
theorem dX4_send_35 : decode cX4_send 35 = .ok (.getfield 12, 3) := by decide +kernel
theorem dX4_send_38 : decode cX4_send 38 = .ok (.invokevirtual 51, 3) := by decide +kernel
theorem dX4_send_41 : decode cX4_send 41 = .ok (.aload_n 0, 1) := by decide +kernel
theorem dX4_send_42 : decode cX4_send 42 = .ok (.getfield 12, 3) := by decide +kernel
theorem dX4_send_45 : decode cX4_send 45 = .ok (.iload_n 1, 1) := by decide +kernel
theorem dX4_send_46 : decode cX4_send 46 = .ok (.invokevirtual 55, 3) := by decide +kernel
theorem dX4_send_49 : decode cX4_send 49 = .ok (.pop, 1) := by decide +kernel
theorem dX4_send_50 : decode cX4_send 50 = .ok (.aload_n 0, 1) := by decide +kernel
theorem dX4_send_51 : decode cX4_send 51 = .ok (.getfield 12, 3) := by decide +kernel
theorem dX4_send_54 : decode cX4_send 54 = .ok (.invokevirtual 58, 3) := by decide +kernel
theorem dX4_send_57 : decode cX4_send 57 = .ok (.ireturn, 1) := by decide +kernel
set_option maxRecDepth 20000 in
theorem ggX4_pause_X4_sendStretch : GoodIn wsX4_pause wsX4_sendStretch := goodIn_r _ [5, 6, 7, 8, 9, 10, 11, 12, 13, 14, 15, 16, 17, 18, 19, 20, 21, 22, 23, 24, 25, 26, 27, 28, 29, 30, 31, 32, 33, 34, 35, 36, 37, 38, 39, 40, 41, 42, 43, 44, 45, 46, 47, 48, 49, 50, 51, 52, 53, 54, 55, 56, 57, 58, 59, 60, 61, 62, 63, 64, 65, 66, 67, 68] (by decide +kernel) (by decide +kernel)
set_option maxRecDepth 20000 in
theorem gX4_pause_X4_sendStretch : GoodIn wsX4_pause (wsV RX4 61 RX4 yX4_sendStretch wsX4_sendStretch) := goodIn_app (goodIn_of _ (by decide +kernel)) ggX4_pause_X4_sendStretch
theorem dX4_pause_0 : decode cX4_pause 0 = .ok (.aload_n 0, 1) := by decide +kernel
theorem dX4_pause_1 : decode cX4_pause 1 = .ok (.iconst 1, 1) := by decide +kernel
theorem dX4_pause_2 : decode cX4_pause 2 = .ok (.iload_n 1, 1) := by decide +kernel
theorem dX4_pause_3 : decode cX4_pause 3 = .ok (.invokevirtual 61, 3) := by decide +kernel
theorem dX4_pause_6 : decode cX4_pause 6 = .ok (.ireturn, 1) := by decide +kernel
set_option maxRecDepth 20000 in
theorem ggX4_sendBreak_X4_sendStretch : GoodIn wsX4_sendBreak wsX4_sendStretch := goodIn_r _ [5, 6, 7, 8, 9, 10, 11, 12, 13, 14, 15, 16, 17, 18, 19, 20, 21, 22, 23, 24, 25, 26, 27, 28, 29, 30, 31, 32, 33, 34, 35, 36, 37, 38, 39, 40, 41, 42, 43, 44, 45, 46, 47, 48, 49, 50, 51, 52, 53, 54, 55, 56, 57, 58, 59, 60, 61, 62, 63, 64, 65, 66, 67, 68] (by decide +kernel) (by decide +kernel)
set_option maxRecDepth 20000 in
theorem gX4_sendBreak_X4_sendStretch : GoodIn wsX4_sendBreak (wsV RX4 61 RX4 yX4_sendStretch wsX4_sendStretch) := goodIn_app (goodIn_of _ (by decide +kernel)) ggX4_sendBreak_X4_sendStretch
theorem dX4_sendBreak_0 : decode cX4_sendBreak 0 = .ok (.aload_n 0, 1) := by decide +kernel
theorem dX4_sendBreak_1 : decode cX4_sendBreak 1 = .ok (.iconst 0, 1) := by decide +kernel
theorem dX4_sendBreak_2 : decode cX4_sendBreak 2 = .ok (.iload_n 1, 1) := by decide +kernel
theorem dX4_sendBreak_3 : decode cX4_sendBreak 3 = .ok (.invokevirtual 61, 3) := by decide +kernel
theorem dX4_sendBreak_6 : decode cX4_sendBreak 6 = .ok (.ireturn, 1) := by decide +kernel
set_option maxRecDepth 20000 in
theorem ggX4_disturb_X4_isDisturbance : GoodIn wsX4_disturb wsX4_isDisturbance := goodIn_r _ [6] (by decide +kernel) (by decide +kernel)
set_option maxRecDepth 20000 in
theorem gX4_disturb_X4_isDisturbance : GoodIn wsX4_disturb (va_wsS RX4 65 yX4_isDisturbance wsX4_isDisturbance) := goodIn_app (goodIn_of _ (by decide +kernel)) ggX4_disturb_X4_isDisturbance
set_option maxRecDepth 20000 in
theorem ggX4_disturb_X2_end : GoodIn wsX4_disturb wsX2_end := goodIn_r _ [11, 12, 53, 54, 55, 56, 57] (by decide +kernel) (by decide +kernel)
set_option maxRecDepth 20000 in
theorem gX4_disturb_X2_end : GoodIn wsX4_disturb (wsV RX4 58 RX2 yX2_end wsX2_end) := goodIn_app (goodIn_of _ (by decide +kernel)) ggX4_disturb_X2_end
set_option maxRecDepth 20000 in
theorem ggX4_disturb_X0_remember : GoodIn wsX4_disturb wsX0_remember := goodIn_r _ [17, 18, 19, 20, 21, 22, 16, 23, 24, 25, 26, 10, 27, 28, 29, 30, 31, 32, 33, 34, 12, 35, 58, 59, 60, 61, 53, 54, 55, 56, 57] (by decide +kernel) (by decide +kernel)
set_option maxRecDepth 20000 in
theorem gX4_disturb_X0_remember : GoodIn wsX4_disturb (wsV RX4 51 RX0 yX0_remember wsX0_remember) := goodIn_app (goodIn_of _ (by decide +kernel)) ggX4_disturb_X0_remember
set_option maxRecDepth 20000 in
theorem ggX4_disturb_X2_flip : GoodIn wsX4_disturb wsX2_flip := goodIn_r _ [39, 40, 41, 42, 43, 12, 28, 44, 45, 46, 10, 47, 53, 54, 55, 56, 57] (by decide +kernel) (by decide +kernel)
set_option maxRecDepth 20000 in
theorem gX4_disturb_X2_flip : GoodIn wsX4_disturb (wsV RX4 68 RX2 yX2_flip wsX2_flip) := goodIn_app (goodIn_of _ (by decide +kernel)) ggX4_disturb_X2_flip
theorem dX4_disturb_0 : decode cX4_disturb 0 = .ok (.iload_n 2, 1) := by decide +kernel
theorem dX4_disturb_1 : decode cX4_disturb 1 = .ok (.invokestatic 65, 3) := by decide +kernel
theorem dX4_disturb_4 : decode cX4_disturb 4 = .ok (.ifCond .eq 20, 3) := by decide +kernel
theorem dX4_disturb_7 : decode cX4_disturb 7 = .ok (.iload_n 1, 1) := by decide +kernel
theorem dX4_disturb_8 : decode cX4_disturb 8 = .ok (.ifCond .lt 16, 3) := by decide +kernel
theorem dX4_disturb_11 : decode cX4_disturb 11 = .ok (.iload_n 1, 1) := by decide +kernel
theorem dX4_disturb_12 : decode cX4_disturb 12 = .ok (.aload_n 0, 1) := by decide +kernel
theorem dX4_disturb_13 : decode cX4_disturb 13 = .ok (.getfield 12, 3) := by decide +kernel
theorem dX4_disturb_16 : decode cX4_disturb 16 = .ok (.invokevirtual 58, 3) := by decide +kernel
theorem dX4_disturb_19 : decode cX4_disturb 19 = .ok (.iload_n 2, 1) := by decide +kernel
theorem dX4_disturb_20 : decode cX4_disturb 20 = .ok (.isub, 1) := by decide +kernel
theorem dX4_disturb_21 : decode cX4_disturb 21 = .ok (.if_icmp .le 6, 3) := by decide +kernel
theorem dX4_disturb_24 : decode cX4_disturb 24 = .ok (.bipush (-2), 2) := by decide +kernel
theorem dX4_disturb_26 : decode cX4_disturb 26 = .ok (.ireturn, 1) := by decide +kernel
theorem dX4_disturb_27 : decode cX4_disturb 27 = .ok (.aload_n 0, 1) := by decide +kernel
theorem dX4_disturb_28 : decode cX4_disturb 28 = .ok (.getfield 36, 3) := by decide +kernel
theorem dX4_disturb_31 : decode cX4_disturb 31 = .ok (.aload_n 0, 1) := by decide +kernel
theorem dX4_disturb_32 : decode cX4_disturb 32 = .ok (.getfield 12, 3) := by decide +kernel
theorem dX4_disturb_35 : decode cX4_disturb 35 = .ok (.invokevirtual 51, 3) := by decide +kernel
theorem dX4_disturb_38 : decode cX4_disturb 38 = .ok (.aload_n 0, 1) := by decide +kernel
theorem dX4_disturb_39 : decode cX4_disturb 39 = .ok (.getfield 12, 3) := by decide +kernel
theorem dX4_disturb_42 : decode cX4_disturb 42 = .ok (.iload_n 1, 1) := by decide +kernel
theorem dX4_disturb_43 : decode cX4_disturb 43 = .ok (.iload_n 2, 1) := by decide +kernel
theorem dX4_disturb_44 : decode cX4_disturb 44 = .ok (.invokevirtual 68, 3) := by decide +kernel
theorem dX4_disturb_47 : decode cX4_disturb 47 = .ok (.ireturn, 1) := by decide +kernel
set_option maxRecDepth 20000 in
theorem ggX4_clear_X2_end : GoodIn wsX4_clear wsX2_end := goodIn_r _ [7, 8, 46, 47, 48, 49, 50] (by decide +kernel) (by decide +kernel)
set_option maxRecDepth 20000 in
theorem gX4_clear_X2_end : GoodIn wsX4_clear (wsV RX4 58 RX2 yX2_end wsX2_end) := goodIn_app (goodIn_of _ (by decide +kernel)) ggX4_clear_X2_end
set_option maxRecDepth 20000 in
theorem ggX4_clear_X0_remember : GoodIn wsX4_clear wsX0_remember := goodIn_r _ [13, 14, 15, 16, 17, 18, 12, 19, 20, 21, 22, 6, 23, 24, 25, 26, 27, 28, 29, 30, 8, 31, 51, 52, 53, 54, 46, 47, 48, 49, 50] (by decide +kernel) (by decide +kernel)
set_option maxRecDepth 20000 in
theorem gX4_clear_X0_remember : GoodIn wsX4_clear (wsV RX4 51 RX0 yX0_remember wsX0_remember) := goodIn_app (goodIn_of _ (by decide +kernel)) ggX4_clear_X0_remember
set_option maxRecDepth 20000 in
theorem ggX4_clear_X2_clearWire : GoodIn wsX4_clear wsX2_clearWire := goodIn_r _ [35, 24, 36, 8, 31, 37, 38, 39, 40, 46, 47, 48, 49, 50] (by decide +kernel) (by decide +kernel)
set_option maxRecDepth 20000 in
theorem gX4_clear_X2_clearWire : GoodIn wsX4_clear (wsV RX4 71 RX2 yX2_clearWire wsX2_clearWire) := goodIn_app (goodIn_of _ (by decide +kernel)) ggX4_clear_X2_clearWire
theorem dX4_clear_0 : decode cX4_clear 0 = .ok (.aload_n 0, 1) := by decide +kernel
theorem dX4_clear_1 : decode cX4_clear 1 = .ok (.getfield 12, 3) := by decide +kernel
theorem dX4_clear_4 : decode cX4_clear 4 = .ok (.invokevirtual 58, 3) := by decide +kernel
theorem dX4_clear_7 : decode cX4_clear 7 = .ok (.istore_n 1, 1) := by decide +kernel
theorem dX4_clear_8 : decode cX4_clear 8 = .ok (.aload_n 0, 1) := by decide +kernel
theorem dX4_clear_9 : decode cX4_clear 9 = .ok (.getfield 36, 3) := by decide +kernel
theorem dX4_clear_12 : decode cX4_clear 12 = .ok (.aload_n 0, 1) := by decide +kernel
theorem dX4_clear_13 : decode cX4_clear 13 = .ok (.getfield 12, 3) := by decide +kernel
theorem dX4_clear_16 : decode cX4_clear 16 = .ok (.invokevirtual 51, 3) := by decide +kernel
theorem dX4_clear_19 : decode cX4_clear 19 = .ok (.aload_n 0, 1) := by decide +kernel
theorem dX4_clear_20 : decode cX4_clear 20 = .ok (.getfield 12, 3) := by decide +kernel
theorem dX4_clear_23 : decode cX4_clear 23 = .ok (.invokevirtual 71, 3) := by decide +kernel
theorem dX4_clear_26 : decode cX4_clear 26 = .ok (.iload_n 1, 1) := by decide +kernel
theorem dX4_clear_27 : decode cX4_clear 27 = .ok (.ireturn, 1) := by decide +kernel
set_option maxRecDepth 20000 in
theorem ggX4_set_X2_setting : GoodIn wsX4_set wsX2_setting := goodIn_r _ [9, 10, 43, 44, 45, 46, 47] (by decide +kernel) (by decide +kernel)
set_option maxRecDepth 20000 in
theorem gX4_set_X2_setting : GoodIn wsX4_set (wsV RX4 81 RX2 yX2_setting wsX2_setting) := goodIn_app (goodIn_of _ (by decide +kernel)) ggX4_set_X2_setting
set_option maxRecDepth 20000 in
theorem ggX4_set_X0_remember : GoodIn wsX4_set wsX0_remember := goodIn_r _ [15, 16, 17, 18, 19, 20, 14, 21, 22, 23, 24, 8, 25, 26, 27, 28, 29, 30, 31, 10, 32, 33, 48, 49, 50, 51, 43, 44, 45, 46, 47] (by decide +kernel) (by decide +kernel)
set_option maxRecDepth 20000 in
theorem gX4_set_X0_remember : GoodIn wsX4_set (wsV RX4 51 RX0 yX0_remember wsX0_remember) := goodIn_app (goodIn_of _ (by decide +kernel)) ggX4_set_X0_remember
set_option maxRecDepth 20000 in
theorem ggX4_set_X2_change : GoodIn wsX4_set wsX2_change := goodIn_r _ [37, 10, 43, 44, 45, 46, 47] (by decide +kernel) (by decide +kernel)
set_option maxRecDepth 20000 in
theorem gX4_set_X2_change : GoodIn wsX4_set (wsV RX4 85 RX2 yX2_change wsX2_change) := goodIn_app (goodIn_of _ (by decide +kernel)) ggX4_set_X2_change
theorem dX4_set_0 : decode cX4_set 0 = .ok (.iload_n 1, 1) := by decide +kernel
theorem dX4_set_1 : decode cX4_set 1 = .ok (.ifCond .lt 8, 3) := by decide +kernel
theorem dX4_set_4 : decode cX4_set 4 = .ok (.iload_n 1, 1) := by decide +kernel
theorem dX4_set_5 : decode cX4_set 5 = .ok (.iconst 5, 1) := by decide +kernel
theorem dX4_set_6 : decode cX4_set 6 = .ok (.if_icmp .lt 5, 3) := by decide +kernel
theorem dX4_set_9 : decode cX4_set 9 = .ok (.iconst (-1), 1) := by decide +kernel
theorem dX4_set_10 : decode cX4_set 10 = .ok (.ireturn, 1) := by decide +kernel
theorem dX4_set_11 : decode cX4_set 11 = .ok (.iload_n 2, 1) := by decide +kernel
theorem dX4_set_12 : decode cX4_set 12 = .ok (.getstatic 74, 3) := by decide +kernel
theorem dX4_set_15 : decode cX4_set 15 = .ok (.iload_n 1, 1) := by decide +kernel
theorem dX4_set_16 : decode cX4_set 16 = .ok (.iaload, 1) := by decide +kernel
theorem dX4_set_17 : decode cX4_set 17 = .ok (.if_icmp .lt 12, 3) := by decide +kernel
theorem dX4_set_20 : decode cX4_set 20 = .ok (.iload_n 2, 1) := by decide +kernel
theorem dX4_set_21 : decode cX4_set 21 = .ok (.getstatic 78, 3) := by decide +kernel
theorem dX4_set_24 : decode cX4_set 24 = .ok (.iload_n 1, 1) := by decide +kernel
theorem dX4_set_25 : decode cX4_set 25 = .ok (.iaload, 1) := by decide +kernel
theorem dX4_set_26 : decode cX4_set 26 = .ok (.if_icmp .le 6, 3) := by decide +kernel
theorem dX4_set_29 : decode cX4_set 29 = .ok (.bipush (-2), 2) := by decide +kernel
theorem dX4_set_31 : decode cX4_set 31 = .ok (.ireturn, 1) := by decide +kernel
theorem dX4_set_32 : decode cX4_set 32 = .ok (.aload_n 0, 1) := by decide +kernel
theorem dX4_set_33 : decode cX4_set 33 = .ok (.getfield 12, 3) := by decide +kernel
theorem dX4_set_36 : decode cX4_set 36 = .ok (.iload_n 1, 1) := by decide +kernel
theorem dX4_set_37 : decode cX4_set 37 = .ok (.invokevirtual 81, 3) := by decide +kernel
theorem dX4_set_40 : decode cX4_set 40 = .ok (.istore_n 3, 1) := by decide +kernel
theorem dX4_set_41 : decode cX4_set 41 = .ok (.iload_n 2, 1) := by decide +kernel
theorem dX4_set_42 : decode cX4_set 42 = .ok (.iload_n 3, 1) := by decide +kernel
theorem dX4_set_43 : decode cX4_set 43 = .ok (.if_icmp .ne 6, 3) := by decide +kernel
theorem dX4_set_46 : decode cX4_set 46 = .ok (.bipush (-5), 2) := by decide +kernel
theorem dX4_set_48 : decode cX4_set 48 = .ok (.ireturn, 1) := by decide +kernel
theorem dX4_set_49 : decode cX4_set 49 = .ok (.aload_n 0, 1) := by decide +kernel
theorem dX4_set_50 : decode cX4_set 50 = .ok (.getfield 36, 3) := by decide +kernel
theorem dX4_set_53 : decode cX4_set 53 = .ok (.aload_n 0, 1) := by decide +kernel
theorem dX4_set_54 : decode cX4_set 54 = .ok (.getfield 12, 3) := by decide +kernel
theorem dX4_set_57 : decode cX4_set 57 = .ok (.invokevirtual 51, 3) := by decide +kernel
theorem dX4_set_60 : decode cX4_set 60 = .ok (.aload_n 0, 1) := by decide +kernel
theorem dX4_set_61 : decode cX4_set 61 = .ok (.getfield 12, 3) := by decide +kernel
theorem dX4_set_64 : decode cX4_set 64 = .ok (.iload_n 1, 1) := by decide +kernel
theorem dX4_set_65 : decode cX4_set 65 = .ok (.iload_n 2, 1) := by decide +kernel
theorem dX4_set_66 : decode cX4_set 66 = .ok (.invokevirtual 85, 3) := by decide +kernel
theorem dX4_set_69 : decode cX4_set 69 = .ok (.iload_n 3, 1) := by decide +kernel
theorem dX4_set_70 : decode cX4_set 70 = .ok (.ireturn, 1) := by decide +kernel
set_option maxRecDepth 20000 in
theorem ggX4_learn_X2_learnedLength : GoodIn wsX4_learn wsX2_learnedLength := goodIn_r _ [7, 8, 9, 10, 6, 11, 12, 13, 14, 15, 16, 17, 18, 19, 20, 21, 22, 23, 24, 25, 26, 27, 28, 29, 30, 31, 32, 33, 34, 35, 36, 72, 73, 74, 75, 76] (by decide +kernel) (by decide +kernel)
set_option maxRecDepth 20000 in
theorem gX4_learn_X2_learnedLength : GoodIn wsX4_learn (wsV RX4 89 RX2 yX2_learnedLength wsX2_learnedLength) := goodIn_app (goodIn_of _ (by decide +kernel)) ggX4_learn_X2_learnedLength
set_option maxRecDepth 20000 in
theorem ggX4_learn_X2_setting : GoodIn wsX4_learn wsX2_setting := goodIn_r _ [40, 41, 72, 73, 74, 75, 76] (by decide +kernel) (by decide +kernel)
set_option maxRecDepth 20000 in
theorem gX4_learn_X2_setting : GoodIn wsX4_learn (wsV RX4 81 RX2 yX2_setting wsX2_setting) := goodIn_app (goodIn_of _ (by decide +kernel)) ggX4_learn_X2_setting
set_option maxRecDepth 20000 in
theorem ggX4_learn_X0_remember : GoodIn wsX4_learn wsX0_remember := goodIn_r _ [46, 47, 48, 49, 50, 51, 45, 52, 53, 54, 55, 6, 56, 25, 57, 58, 59, 60, 61, 41, 12, 62, 77, 78, 79, 80, 72, 73, 74, 75, 76] (by decide +kernel) (by decide +kernel)
set_option maxRecDepth 20000 in
theorem gX4_learn_X0_remember : GoodIn wsX4_learn (wsV RX4 51 RX0 yX0_remember wsX0_remember) := goodIn_app (goodIn_of _ (by decide +kernel)) ggX4_learn_X0_remember
set_option maxRecDepth 20000 in
theorem ggX4_learn_X2_change : GoodIn wsX4_learn wsX2_change := goodIn_r _ [66, 41, 72, 73, 74, 75, 76] (by decide +kernel) (by decide +kernel)
set_option maxRecDepth 20000 in
theorem gX4_learn_X2_change : GoodIn wsX4_learn (wsV RX4 85 RX2 yX2_change wsX2_change) := goodIn_app (goodIn_of _ (by decide +kernel)) ggX4_learn_X2_change
theorem dX4_learn_0 : decode cX4_learn 0 = .ok (.aload_n 0, 1) := by decide +kernel
theorem dX4_learn_1 : decode cX4_learn 1 = .ok (.getfield 12, 3) := by decide +kernel
theorem dX4_learn_4 : decode cX4_learn 4 = .ok (.invokevirtual 89, 3) := by decide +kernel
theorem dX4_learn_7 : decode cX4_learn 7 = .ok (.istore_n 1, 1) := by decide +kernel
theorem dX4_learn_8 : decode cX4_learn 8 = .ok (.iload_n 1, 1) := by decide +kernel
theorem dX4_learn_9 : decode cX4_learn 9 = .ok (.bipush (-5), 2) := by decide +kernel
theorem dX4_learn_11 : decode cX4_learn 11 = .ok (.if_icmp .eq 15, 3) := by decide +kernel
theorem dX4_learn_14 : decode cX4_learn 14 = .ok (.iload_n 1, 1) := by decide +kernel
theorem dX4_learn_15 : decode cX4_learn 15 = .ok (.aload_n 0, 1) := by decide +kernel
theorem dX4_learn_16 : decode cX4_learn 16 = .ok (.getfield 12, 3) := by decide +kernel
theorem dX4_learn_19 : decode cX4_learn 19 = .ok (.iconst 1, 1) := by decide +kernel
theorem dX4_learn_20 : decode cX4_learn 20 = .ok (.invokevirtual 81, 3) := by decide +kernel
theorem dX4_learn_23 : decode cX4_learn 23 = .ok (.if_icmp .ne 6, 3) := by decide +kernel
theorem dX4_learn_26 : decode cX4_learn 26 = .ok (.bipush (-5), 2) := by decide +kernel
theorem dX4_learn_28 : decode cX4_learn 28 = .ok (.ireturn, 1) := by decide +kernel
theorem dX4_learn_29 : decode cX4_learn 29 = .ok (.aload_n 0, 1) := by decide +kernel
theorem dX4_learn_30 : decode cX4_learn 30 = .ok (.getfield 36, 3) := by decide +kernel
theorem dX4_learn_33 : decode cX4_learn 33 = .ok (.aload_n 0, 1) := by decide +kernel
theorem dX4_learn_34 : decode cX4_learn 34 = .ok (.getfield 12, 3) := by decide +kernel
theorem dX4_learn_37 : decode cX4_learn 37 = .ok (.invokevirtual 51, 3) := by decide +kernel
theorem dX4_learn_40 : decode cX4_learn 40 = .ok (.aload_n 0, 1) := by decide +kernel
theorem dX4_learn_41 : decode cX4_learn 41 = .ok (.getfield 12, 3) := by decide +kernel
theorem dX4_learn_44 : decode cX4_learn 44 = .ok (.iconst 1, 1) := by decide +kernel
theorem dX4_learn_45 : decode cX4_learn 45 = .ok (.iload_n 1, 1) := by decide +kernel
theorem dX4_learn_46 : decode cX4_learn 46 = .ok (.invokevirtual 85, 3) := by decide +kernel
theorem dX4_learn_49 : decode cX4_learn 49 = .ok (.iload_n 1, 1) := by decide +kernel
theorem dX4_learn_50 : decode cX4_learn 50 = .ok (.ireturn, 1) := by decide +kernel
set_option maxRecDepth 20000 in
theorem ggX4_type_X3_append : GoodIn wsX4_type wsX3_append := goodIn_r _ [6, 7, 8, 18, 19, 20, 21] (by decide +kernel) (by decide +kernel)
set_option maxRecDepth 20000 in
theorem gX4_type_X3_append : GoodIn wsX4_type (wsV RX4 92 RX3 yX3_append wsX3_append) := goodIn_app (goodIn_of _ (by decide +kernel)) ggX4_type_X3_append
set_option maxRecDepth 20000 in
theorem ggX4_type_X3_length : GoodIn wsX4_type wsX3_length := goodIn_r _ [12, 7, 18, 19, 20, 21] (by decide +kernel) (by decide +kernel)
set_option maxRecDepth 20000 in
theorem gX4_type_X3_length : GoodIn wsX4_type (wsV RX4 96 RX3 yX3_length wsX3_length) := goodIn_app (goodIn_of _ (by decide +kernel)) ggX4_type_X3_length
theorem dX4_type_0 : decode cX4_type 0 = .ok (.aload_n 0, 1) := by decide +kernel
theorem dX4_type_1 : decode cX4_type 1 = .ok (.getfield 29, 3) := by decide +kernel
theorem dX4_type_4 : decode cX4_type 4 = .ok (.iload_n 1, 1) := by decide +kernel
theorem dX4_type_5 : decode cX4_type 5 = .ok (.invokevirtual 92, 3) := by decide +kernel
theorem dX4_type_8 : decode cX4_type 8 = .ok (.ifCond .eq 13, 3) := by decide +kernel
theorem dX4_type_11 : decode cX4_type 11 = .ok (.aload_n 0, 1) := by decide +kernel
theorem dX4_type_12 : decode cX4_type 12 = .ok (.getfield 29, 3) := by decide +kernel
theorem dX4_type_15 : decode cX4_type 15 = .ok (.invokevirtual 96, 3) := by decide +kernel
theorem dX4_type_18 : decode cX4_type 18 = .ok (.goto 5, 3) := by decide +kernel
theorem dX4_type_21 : decode cX4_type 21 = .ok (.bipush (-3), 2) := by decide +kernel
theorem dX4_type_23 : decode cX4_type 23 = .ok (.ireturn, 1) := by decide +kernel
set_option maxRecDepth 20000 in
theorem ggX4_clearText_X3_length : GoodIn wsX4_clearText wsX3_length := goodIn_r _ [6, 7, 17, 18, 19, 20] (by decide +kernel) (by decide +kernel)
set_option maxRecDepth 20000 in
theorem gX4_clearText_X3_length : GoodIn wsX4_clearText (wsV RX4 96 RX3 yX3_length wsX3_length) := goodIn_app (goodIn_of _ (by decide +kernel)) ggX4_clearText_X3_length
set_option maxRecDepth 20000 in
theorem ggX4_clearText_X3_empty : GoodIn wsX4_clearText wsX3_empty := goodIn_r _ [11, 7, 17, 18, 19, 20] (by decide +kernel) (by decide +kernel)
set_option maxRecDepth 20000 in
theorem gX4_clearText_X3_empty : GoodIn wsX4_clearText (wsV RX4 99 RX3 yX3_empty wsX3_empty) := goodIn_app (goodIn_of _ (by decide +kernel)) ggX4_clearText_X3_empty
theorem dX4_clearText_0 : decode cX4_clearText 0 = .ok (.aload_n 0, 1) := by decide +kernel
theorem dX4_clearText_1 : decode cX4_clearText 1 = .ok (.getfield 29, 3) := by decide +kernel
theorem dX4_clearText_4 : decode cX4_clearText 4 = .ok (.invokevirtual 96, 3) := by decide +kernel
theorem dX4_clearText_7 : decode cX4_clearText 7 = .ok (.istore_n 1, 1) := by decide +kernel
theorem dX4_clearText_8 : decode cX4_clearText 8 = .ok (.aload_n 0, 1) := by decide +kernel
theorem dX4_clearText_9 : decode cX4_clearText 9 = .ok (.getfield 29, 3) := by decide +kernel
theorem dX4_clearText_12 : decode cX4_clearText 12 = .ok (.invokevirtual 99, 3) := by decide +kernel
theorem dX4_clearText_15 : decode cX4_clearText 15 = .ok (.iload_n 1, 1) := by decide +kernel
theorem dX4_clearText_16 : decode cX4_clearText 16 = .ok (.ireturn, 1) := by decide +kernel
set_option maxRecDepth 20000 in
theorem ggX4_perform_X3_fault : GoodIn wsX4_perform wsX3_fault := goodIn_r _ [9, 10, 11, 12, 13, 8, 14, 15, 16, 17, 18, 19, 20, 21, 22, 23, 24, 25, 26, 27, 28, 29, 30, 31, 32, 33, 34, 35, 36, 142, 143, 144, 145] (by decide +kernel) (by decide +kernel)
set_option maxRecDepth 20000 in
theorem gX4_perform_X3_fault : GoodIn wsX4_perform (wsV RX4 102 RX3 yX3_fault wsX3_fault) := goodIn_app (goodIn_of _ (by decide +kernel)) ggX4_perform_X3_fault
set_option maxRecDepth 20000 in
theorem ggX4_perform_X2_copyFrom : GoodIn wsX4_perform wsX2_copyFrom := goodIn_r _ [41, 42, 43, 44, 45, 46, 47, 48, 49, 50, 146, 147, 148, 149, 150] (by decide +kernel) (by decide +kernel)
set_option maxRecDepth 20000 in
theorem gX4_perform_X2_copyFrom : GoodIn wsX4_perform (wsV RX4 105 RX2 yX2_copyFrom wsX2_copyFrom) := goodIn_app (goodIn_of _ (by decide +kernel)) ggX4_perform_X2_copyFrom
set_option maxRecDepth 20000 in
theorem ggX4_perform_X3_sendTo : GoodIn wsX4_perform wsX3_sendTo := goodIn_r _ [54, 55, 10, 56, 11, 12, 13, 8, 14, 15, 57, 58, 59, 60, 61, 28, 29, 30, 25, 26, 27, 62, 63, 64, 65, 66, 67, 68, 69, 22, 23, 24, 70, 71, 72, 73, 74, 75, 76, 40, 77, 49, 78, 79, 80, 81, 82, 83, 84, 85, 86, 87, 88, 89, 42, 90, 91, 92, 93, 94, 50, 48, 47, 95, 96, 97, 98, 99, 100, 101, 102, 103, 104, 105, 106, 107, 108, 109, 110, 111, 112, 113, 114, 115, 116, 117, 118, 119, 120, 142, 143, 144, 145, 146, 147, 148, 149, 150] (by decide +kernel) (by decide +kernel)
set_option maxRecDepth 20000 in
theorem gX4_perform_X3_sendTo : GoodIn wsX4_perform (wsV RX4 108 RX3 yX3_sendTo wsX3_sendTo) := goodIn_app (goodIn_of _ (by decide +kernel)) ggX4_perform_X3_sendTo
set_option maxRecDepth 20000 in
theorem ggX4_perform_X0_remember : GoodIn wsX4_perform wsX0_remember := goodIn_r _ [125, 126, 127, 128, 129, 130, 124, 131, 132, 38, 39, 40, 41, 42, 43, 44, 45, 46, 47, 48, 49, 50, 151, 152, 153, 154, 146, 147, 148, 149, 150] (by decide +kernel) (by decide +kernel)
set_option maxRecDepth 20000 in
theorem gX4_perform_X0_remember : GoodIn wsX4_perform (wsV RX4 51 RX0 yX0_remember wsX0_remember) := goodIn_app (goodIn_of _ (by decide +kernel)) ggX4_perform_X0_remember
set_option maxRecDepth 20000 in
theorem ggX4_perform_X2_end : GoodIn wsX4_perform wsX2_end := goodIn_r _ [136, 49, 146, 147, 148, 149, 150] (by decide +kernel) (by decide +kernel)
set_option maxRecDepth 20000 in
theorem gX4_perform_X2_end : GoodIn wsX4_perform (wsV RX4 58 RX2 yX2_end wsX2_end) := goodIn_app (goodIn_of _ (by decide +kernel)) ggX4_perform_X2_end
theorem dX4_perform_0 : decode cX4_perform 0 = .ok (.aload_n 0, 1) := by decide +kernel
theorem dX4_perform_1 : decode cX4_perform 1 = .ok (.getfield 29, 3) := by decide +kernel
theorem dX4_perform_4 : decode cX4_perform 4 = .ok (.invokevirtual 102, 3) := by decide +kernel
theorem dX4_perform_7 : decode cX4_perform 7 = .ok (.istore_n 1, 1) := by decide +kernel
theorem dX4_perform_8 : decode cX4_perform 8 = .ok (.iload_n 1, 1) := by decide +kernel
theorem dX4_perform_9 : decode cX4_perform 9 = .ok (.bipush (-5), 2) := by decide +kernel
theorem dX4_perform_11 : decode cX4_perform 11 = .ok (.if_icmp .eq 8, 3) := by decide +kernel
theorem dX4_perform_14 : decode cX4_perform 14 = .ok (.bipush (-100), 2) := by decide +kernel
theorem dX4_perform_16 : decode cX4_perform 16 = .ok (.iload_n 1, 1) := by decide +kernel
theorem dX4_perform_17 : decode cX4_perform 17 = .ok (.isub, 1) := by decide +kernel
theorem dX4_perform_18 : decode cX4_perform 18 = .ok (.ireturn, 1) := by decide +kernel
theorem dX4_perform_19 : decode cX4_perform 19 = .ok (.aload_n 0, 1) := by decide +kernel
theorem dX4_perform_20 : decode cX4_perform 20 = .ok (.getfield 16, 3) := by decide +kernel
theorem dX4_perform_23 : decode cX4_perform 23 = .ok (.aload_n 0, 1) := by decide +kernel
theorem dX4_perform_24 : decode cX4_perform 24 = .ok (.getfield 12, 3) := by decide +kernel
theorem dX4_perform_27 : decode cX4_perform 27 = .ok (.invokevirtual 105, 3) := by decide +kernel
theorem dX4_perform_30 : decode cX4_perform 30 = .ok (.aload_n 0, 1) := by decide +kernel
theorem dX4_perform_31 : decode cX4_perform 31 = .ok (.getfield 29, 3) := by decide +kernel
theorem dX4_perform_34 : decode cX4_perform 34 = .ok (.aload_n 0, 1) := by decide +kernel
theorem dX4_perform_35 : decode cX4_perform 35 = .ok (.getfield 16, 3) := by decide +kernel
theorem dX4_perform_38 : decode cX4_perform 38 = .ok (.invokevirtual 108, 3) := by decide +kernel
theorem dX4_perform_41 : decode cX4_perform 41 = .ok (.ifCond .ne 6, 3) := by decide +kernel
theorem dX4_perform_44 : decode cX4_perform 44 = .ok (.bipush (-3), 2) := by decide +kernel
theorem dX4_perform_46 : decode cX4_perform 46 = .ok (.ireturn, 1) := by decide +kernel
theorem dX4_perform_47 : decode cX4_perform 47 = .ok (.aload_n 0, 1) := by decide +kernel
theorem dX4_perform_48 : decode cX4_perform 48 = .ok (.getfield 36, 3) := by decide +kernel
theorem dX4_perform_51 : decode cX4_perform 51 = .ok (.aload_n 0, 1) := by decide +kernel
theorem dX4_perform_52 : decode cX4_perform 52 = .ok (.getfield 12, 3) := by decide +kernel
theorem dX4_perform_55 : decode cX4_perform 55 = .ok (.invokevirtual 51, 3) := by decide +kernel
theorem dX4_perform_58 : decode cX4_perform 58 = .ok (.aload_n 0, 1) := by decide +kernel
theorem dX4_perform_59 : decode cX4_perform 59 = .ok (.getfield 12, 3) := by decide +kernel
theorem dX4_perform_62 : decode cX4_perform 62 = .ok (.aload_n 0, 1) := by decide +kernel
theorem dX4_perform_63 : decode cX4_perform 63 = .ok (.getfield 16, 3) := by decide +kernel
theorem dX4_perform_66 : decode cX4_perform 66 = .ok (.invokevirtual 105, 3) := by decide +kernel
theorem dX4_perform_69 : decode cX4_perform 69 = .ok (.aload_n 0, 1) := by decide +kernel
theorem dX4_perform_70 : decode cX4_perform 70 = .ok (.getfield 12, 3) := by decide +kernel
theorem dX4_perform_73 : decode cX4_perform 73 = .ok (.invokevirtual 58, 3) := by decide +kernel
theorem dX4_perform_76 : decode cX4_perform 76 = .ok (.ireturn, 1) := by decide +kernel
set_option maxRecDepth 20000 in
theorem ggX4_undo_X0_takeBack : GoodIn wsX4_undo wsX0_takeBack := goodIn_r _ [7, 8, 9, 10, 11, 12, 13, 14, 15, 16, 17, 18, 19, 20, 21, 22, 23, 33, 34, 35, 36, 37, 38, 39, 40, 41] (by decide +kernel) (by decide +kernel)
set_option maxRecDepth 20000 in
theorem gX4_undo_X0_takeBack : GoodIn wsX4_undo (wsV RX4 112 RX0 yX0_takeBack wsX0_takeBack) := goodIn_app (goodIn_of _ (by decide +kernel)) ggX4_undo_X0_takeBack
set_option maxRecDepth 20000 in
theorem ggX4_undo_X0_size : GoodIn wsX4_undo wsX0_size := goodIn_r _ [27, 8, 33, 34, 35, 36] (by decide +kernel) (by decide +kernel)
set_option maxRecDepth 20000 in
theorem gX4_undo_X0_size : GoodIn wsX4_undo (wsV RX4 115 RX0 yX0_size wsX0_size) := goodIn_app (goodIn_of _ (by decide +kernel)) ggX4_undo_X0_size
theorem dX4_undo_0 : decode cX4_undo 0 = .ok (.aload_n 0, 1) := by decide +kernel
theorem dX4_undo_1 : decode cX4_undo 1 = .ok (.getfield 36, 3) := by decide +kernel
theorem dX4_undo_4 : decode cX4_undo 4 = .ok (.aload_n 0, 1) := by decide +kernel
theorem dX4_undo_5 : decode cX4_undo 5 = .ok (.getfield 12, 3) := by decide +kernel
theorem dX4_undo_8 : decode cX4_undo 8 = .ok (.invokevirtual 112, 3) := by decide +kernel
theorem dX4_undo_11 : decode cX4_undo 11 = .ok (.ifCond .eq 13, 3) := by decide +kernel
theorem dX4_undo_14 : decode cX4_undo 14 = .ok (.aload_n 0, 1) := by decide +kernel
theorem dX4_undo_15 : decode cX4_undo 15 = .ok (.getfield 36, 3) := by decide +kernel
theorem dX4_undo_18 : decode cX4_undo 18 = .ok (.invokevirtual 115, 3) := by decide +kernel
theorem dX4_undo_21 : decode cX4_undo 21 = .ok (.goto 5, 3) := by decide +kernel
theorem dX4_undo_24 : decode cX4_undo 24 = .ok (.bipush (-5), 2) := by decide +kernel
theorem dX4_undo_26 : decode cX4_undo 26 = .ok (.ireturn, 1) := by decide +kernel
set_option maxRecDepth 20000 in
theorem ggX4_keep_X0_takeSnapshot : GoodIn wsX4_keep wsX0_takeSnapshot := goodIn_r _ [7, 8, 9, 10, 11, 12, 13, 14, 15, 16, 17, 18, 19, 20, 21, 22, 23, 33, 34, 35, 36, 37, 38, 39, 40, 41] (by decide +kernel) (by decide +kernel)
set_option maxRecDepth 20000 in
theorem gX4_keep_X0_takeSnapshot : GoodIn wsX4_keep (wsV RX4 118 RX0 yX0_takeSnapshot wsX0_takeSnapshot) := goodIn_app (goodIn_of _ (by decide +kernel)) ggX4_keep_X0_takeSnapshot
set_option maxRecDepth 20000 in
theorem ggX4_keep_X2_end : GoodIn wsX4_keep wsX2_end := goodIn_r _ [27, 22, 37, 38, 39, 40, 41] (by decide +kernel) (by decide +kernel)
set_option maxRecDepth 20000 in
theorem gX4_keep_X2_end : GoodIn wsX4_keep (wsV RX4 58 RX2 yX2_end wsX2_end) := goodIn_app (goodIn_of _ (by decide +kernel)) ggX4_keep_X2_end
theorem dX4_keep_0 : decode cX4_keep 0 = .ok (.aload_n 0, 1) := by decide +kernel
theorem dX4_keep_1 : decode cX4_keep 1 = .ok (.getfield 36, 3) := by decide +kernel
theorem dX4_keep_4 : decode cX4_keep 4 = .ok (.aload_n 0, 1) := by decide +kernel
theorem dX4_keep_5 : decode cX4_keep 5 = .ok (.getfield 12, 3) := by decide +kernel
theorem dX4_keep_8 : decode cX4_keep 8 = .ok (.invokevirtual 118, 3) := by decide +kernel
theorem dX4_keep_11 : decode cX4_keep 11 = .ok (.aload_n 0, 1) := by decide +kernel
theorem dX4_keep_12 : decode cX4_keep 12 = .ok (.getfield 12, 3) := by decide +kernel
theorem dX4_keep_15 : decode cX4_keep 15 = .ok (.invokevirtual 58, 3) := by decide +kernel
theorem dX4_keep_18 : decode cX4_keep 18 = .ok (.ireturn, 1) := by decide +kernel
set_option maxRecDepth 20000 in
theorem ggX4_restore_X0_hasSnapshot : GoodIn wsX4_restore wsX0_hasSnapshot := goodIn_r _ [7, 8, 47, 48, 49, 50] (by decide +kernel) (by decide +kernel)
set_option maxRecDepth 20000 in
theorem gX4_restore_X0_hasSnapshot : GoodIn wsX4_restore (wsV RX4 121 RX0 yX0_hasSnapshot wsX0_hasSnapshot) := goodIn_app (goodIn_of _ (by decide +kernel)) ggX4_restore_X0_hasSnapshot
set_option maxRecDepth 20000 in
theorem ggX4_restore_X0_remember : GoodIn wsX4_restore wsX0_remember := goodIn_r _ [12, 13, 14, 15, 16, 17, 6, 18, 19, 20, 21, 22, 23, 24, 25, 26, 27, 28, 29, 30, 31, 32, 47, 48, 49, 50, 51, 52, 53, 54, 55] (by decide +kernel) (by decide +kernel)
set_option maxRecDepth 20000 in
theorem gX4_restore_X0_remember : GoodIn wsX4_restore (wsV RX4 51 RX0 yX0_remember wsX0_remember) := goodIn_app (goodIn_of _ (by decide +kernel)) ggX4_restore_X0_remember
set_option maxRecDepth 20000 in
theorem ggX4_restore_X0_copySnapshotTo : GoodIn wsX4_restore wsX0_copySnapshotTo := goodIn_r _ [36, 37, 19, 20, 21, 22, 23, 24, 25, 26, 27, 28, 29, 30, 31, 32, 47, 48, 49, 50, 51, 52, 53, 54, 55] (by decide +kernel) (by decide +kernel)
set_option maxRecDepth 20000 in
theorem gX4_restore_X0_copySnapshotTo : GoodIn wsX4_restore (wsV RX4 125 RX0 yX0_copySnapshotTo wsX0_copySnapshotTo) := goodIn_app (goodIn_of _ (by decide +kernel)) ggX4_restore_X0_copySnapshotTo
set_option maxRecDepth 20000 in
theorem ggX4_restore_X2_end : GoodIn wsX4_restore wsX2_end := goodIn_r _ [41, 31, 51, 52, 53, 54, 55] (by decide +kernel) (by decide +kernel)
set_option maxRecDepth 20000 in
theorem gX4_restore_X2_end : GoodIn wsX4_restore (wsV RX4 58 RX2 yX2_end wsX2_end) := goodIn_app (goodIn_of _ (by decide +kernel)) ggX4_restore_X2_end
theorem dX4_restore_0 : decode cX4_restore 0 = .ok (.aload_n 0, 1) := by decide +kernel
theorem dX4_restore_1 : decode cX4_restore 1 = .ok (.getfield 36, 3) := by decide +kernel
theorem dX4_restore_4 : decode cX4_restore 4 = .ok (.invokevirtual 121, 3) := by decide +kernel
theorem dX4_restore_7 : decode cX4_restore 7 = .ok (.ifCond .ne 6, 3) := by decide +kernel
theorem dX4_restore_10 : decode cX4_restore 10 = .ok (.bipush (-5), 2) := by decide +kernel
theorem dX4_restore_12 : decode cX4_restore 12 = .ok (.ireturn, 1) := by decide +kernel
theorem dX4_restore_13 : decode cX4_restore 13 = .ok (.aload_n 0, 1) := by decide +kernel
theorem dX4_restore_14 : decode cX4_restore 14 = .ok (.getfield 36, 3) := by decide +kernel
theorem dX4_restore_17 : decode cX4_restore 17 = .ok (.aload_n 0, 1) := by decide +kernel
theorem dX4_restore_18 : decode cX4_restore 18 = .ok (.getfield 12, 3) := by decide +kernel
theorem dX4_restore_21 : decode cX4_restore 21 = .ok (.invokevirtual 51, 3) := by decide +kernel
theorem dX4_restore_24 : decode cX4_restore 24 = .ok (.aload_n 0, 1) := by decide +kernel
theorem dX4_restore_25 : decode cX4_restore 25 = .ok (.getfield 36, 3) := by decide +kernel
theorem dX4_restore_28 : decode cX4_restore 28 = .ok (.aload_n 0, 1) := by decide +kernel
theorem dX4_restore_29 : decode cX4_restore 29 = .ok (.getfield 12, 3) := by decide +kernel
theorem dX4_restore_32 : decode cX4_restore 32 = .ok (.invokevirtual 125, 3) := by decide +kernel
theorem dX4_restore_35 : decode cX4_restore 35 = .ok (.aload_n 0, 1) := by decide +kernel
theorem dX4_restore_36 : decode cX4_restore 36 = .ok (.getfield 12, 3) := by decide +kernel
theorem dX4_restore_39 : decode cX4_restore 39 = .ok (.invokevirtual 58, 3) := by decide +kernel
theorem dX4_restore_42 : decode cX4_restore 42 = .ok (.ireturn, 1) := by decide +kernel
set_option maxRecDepth 20000 in
theorem ggX4_level_X2_levelAt : GoodIn wsX4_level wsX2_levelAt := goodIn_r _ [6, 7, 8, 14, 15, 16, 17, 18] (by decide +kernel) (by decide +kernel)
set_option maxRecDepth 20000 in
theorem gX4_level_X2_levelAt : GoodIn wsX4_level (wsV RX4 128 RX2 yX2_levelAt wsX2_levelAt) := goodIn_app (goodIn_of _ (by decide +kernel)) ggX4_level_X2_levelAt
theorem dX4_level_0 : decode cX4_level 0 = .ok (.iload_n 1, 1) := by decide +kernel
theorem dX4_level_1 : decode cX4_level 1 = .ok (.ifCond .ge 8, 3) := by decide +kernel
theorem dX4_level_4 : decode cX4_level 4 = .ok (.bipush (-2), 2) := by decide +kernel
theorem dX4_level_6 : decode cX4_level 6 = .ok (.goto 11, 3) := by decide +kernel
theorem dX4_level_9 : decode cX4_level 9 = .ok (.aload_n 0, 1) := by decide +kernel
theorem dX4_level_10 : decode cX4_level 10 = .ok (.getfield 12, 3) := by decide +kernel
theorem dX4_level_13 : decode cX4_level 13 = .ok (.iload_n 1, 1) := by decide +kernel
theorem dX4_level_14 : decode cX4_level 14 = .ok (.invokevirtual 128, 3) := by decide +kernel
theorem dX4_level_17 : decode cX4_level 17 = .ok (.ireturn, 1) := by decide +kernel
set_option maxRecDepth 20000 in
theorem ggX4_fall_X2_fallOfRank : GoodIn wsX4_fall wsX2_fallOfRank := goodIn_r _ [6, 7, 8, 9, 10, 5, 11, 12, 13, 14, 15, 16, 17, 18, 19, 20, 21, 22, 23, 24, 25, 26, 27, 28, 29, 30, 31, 37, 38, 39, 40, 41] (by decide +kernel) (by decide +kernel)
set_option maxRecDepth 20000 in
theorem gX4_fall_X2_fallOfRank : GoodIn wsX4_fall (wsV RX4 131 RX2 yX2_fallOfRank wsX2_fallOfRank) := goodIn_app (goodIn_of _ (by decide +kernel)) ggX4_fall_X2_fallOfRank
theorem dX4_fall_0 : decode cX4_fall 0 = .ok (.iload_n 1, 1) := by decide +kernel
theorem dX4_fall_1 : decode cX4_fall 1 = .ok (.ifCond .ge 8, 3) := by decide +kernel
theorem dX4_fall_4 : decode cX4_fall 4 = .ok (.bipush (-2), 2) := by decide +kernel
theorem dX4_fall_6 : decode cX4_fall 6 = .ok (.goto 11, 3) := by decide +kernel
theorem dX4_fall_9 : decode cX4_fall 9 = .ok (.aload_n 0, 1) := by decide +kernel
theorem dX4_fall_10 : decode cX4_fall 10 = .ok (.getfield 12, 3) := by decide +kernel
theorem dX4_fall_13 : decode cX4_fall 13 = .ok (.iload_n 1, 1) := by decide +kernel
theorem dX4_fall_14 : decode cX4_fall 14 = .ok (.invokevirtual 131, 3) := by decide +kernel
theorem dX4_fall_17 : decode cX4_fall 17 = .ok (.ireturn, 1) := by decide +kernel
set_option maxRecDepth 20000 in
theorem ggX4_sent_X2_wordOfRank : GoodIn wsX4_sent wsX2_wordOfRank := goodIn_r _ [6, 7, 8, 14, 15, 16, 17, 18] (by decide +kernel) (by decide +kernel)
set_option maxRecDepth 20000 in
theorem gX4_sent_X2_wordOfRank : GoodIn wsX4_sent (wsV RX4 134 RX2 yX2_wordOfRank wsX2_wordOfRank) := goodIn_app (goodIn_of _ (by decide +kernel)) ggX4_sent_X2_wordOfRank
theorem dX4_sent_0 : decode cX4_sent 0 = .ok (.iload_n 1, 1) := by decide +kernel
theorem dX4_sent_1 : decode cX4_sent 1 = .ok (.ifCond .ge 8, 3) := by decide +kernel
theorem dX4_sent_4 : decode cX4_sent 4 = .ok (.bipush (-2), 2) := by decide +kernel
theorem dX4_sent_6 : decode cX4_sent 6 = .ok (.goto 11, 3) := by decide +kernel
theorem dX4_sent_9 : decode cX4_sent 9 = .ok (.aload_n 0, 1) := by decide +kernel
theorem dX4_sent_10 : decode cX4_sent 10 = .ok (.getfield 12, 3) := by decide +kernel
theorem dX4_sent_13 : decode cX4_sent 13 = .ok (.iload_n 1, 1) := by decide +kernel
theorem dX4_sent_14 : decode cX4_sent 14 = .ok (.invokevirtual 134, 3) := by decide +kernel
theorem dX4_sent_17 : decode cX4_sent 17 = .ok (.ireturn, 1) := by decide +kernel
set_option maxRecDepth 20000 in
theorem ggX4_received_X2_setting : GoodIn wsX4_received wsX2_setting := goodIn_r _ [7, 8, 93, 94, 95, 96, 97] (by decide +kernel) (by decide +kernel)
set_option maxRecDepth 20000 in
theorem gX4_received_X2_setting : GoodIn wsX4_received (wsV RX4 81 RX2 yX2_setting wsX2_setting) := goodIn_app (goodIn_of _ (by decide +kernel)) ggX4_received_X2_setting
set_option maxRecDepth 20000 in
theorem ggX4_received_X1_receive : GoodIn wsX4_received wsX1_receive := goodIn_r _ [13, 14, 15, 16, 17, 18, 19, 20, 21, 22, 6, 23, 24, 25, 26, 27, 28, 29, 30, 31, 32, 33, 34, 35, 36, 37, 38, 39, 40, 41, 42, 43, 44, 45, 46, 47, 48, 12, 49, 50, 51, 52, 53, 54, 55, 56, 57, 58, 59, 60, 61, 62, 4, 5, 7, 8, 63, 64, 65, 66, 67, 68, 69, 70, 71, 72, 73, 74, 75, 76, 77, 78, 79, 80, 81, 82, 83, 98, 99, 100, 101, 93, 94, 95, 96, 97] (by decide +kernel) (by decide +kernel)
set_option maxRecDepth 20000 in
theorem gX4_received_X1_receive : GoodIn wsX4_received (wsV RX4 137 RX1 yX1_receive wsX1_receive) := goodIn_app (goodIn_of _ (by decide +kernel)) ggX4_received_X1_receive
set_option maxRecDepth 20000 in
theorem ggX4_received_X1_note : GoodIn wsX4_received wsX1_note := goodIn_r _ [87, 14, 83, 98, 99, 100, 101] (by decide +kernel) (by decide +kernel)
set_option maxRecDepth 20000 in
theorem gX4_received_X1_note : GoodIn wsX4_received (wsV RX4 141 RX1 yX1_note wsX1_note) := goodIn_app (goodIn_of _ (by decide +kernel)) ggX4_received_X1_note
theorem dX4_received_0 : decode cX4_received 0 = .ok (.iload_n 1, 1) := by decide +kernel
theorem dX4_received_1 : decode cX4_received 1 = .ok (.ifCond .lt 12, 3) := by decide +kernel
theorem dX4_received_4 : decode cX4_received 4 = .ok (.iload_n 2, 1) := by decide +kernel
theorem dX4_received_5 : decode cX4_received 5 = .ok (.ifCond .lt 8, 3) := by decide +kernel
theorem dX4_received_8 : decode cX4_received 8 = .ok (.iload_n 2, 1) := by decide +kernel
theorem dX4_received_9 : decode cX4_received 9 = .ok (.iconst 5, 1) := by decide +kernel
theorem dX4_received_10 : decode cX4_received 10 = .ok (.if_icmp .lt 6, 3) := by decide +kernel
theorem dX4_received_13 : decode cX4_received 13 = .ok (.bipush (-2), 2) := by decide +kernel
theorem dX4_received_15 : decode cX4_received 15 = .ok (.ireturn, 1) := by decide +kernel
theorem dX4_received_16 : decode cX4_received 16 = .ok (.aload_n 0, 1) := by decide +kernel
theorem dX4_received_17 : decode cX4_received 17 = .ok (.getfield 22, 3) := by decide +kernel
theorem dX4_received_20 : decode cX4_received 20 = .ok (.aload_n 0, 1) := by decide +kernel
theorem dX4_received_21 : decode cX4_received 21 = .ok (.getfield 12, 3) := by decide +kernel
theorem dX4_received_24 : decode cX4_received 24 = .ok (.aload_n 0, 1) := by decide +kernel
theorem dX4_received_25 : decode cX4_received 25 = .ok (.getfield 12, 3) := by decide +kernel
theorem dX4_received_28 : decode cX4_received 28 = .ok (.iconst 1, 1) := by decide +kernel
theorem dX4_received_29 : decode cX4_received 29 = .ok (.invokevirtual 81, 3) := by decide +kernel
theorem dX4_received_32 : decode cX4_received 32 = .ok (.invokevirtual 137, 3) := by decide +kernel
theorem dX4_received_35 : decode cX4_received 35 = .ok (.aload_n 0, 1) := by decide +kernel
theorem dX4_received_36 : decode cX4_received 36 = .ok (.getfield 22, 3) := by decide +kernel
theorem dX4_received_39 : decode cX4_received 39 = .ok (.iload_n 1, 1) := by decide +kernel
theorem dX4_received_40 : decode cX4_received 40 = .ok (.iload_n 2, 1) := by decide +kernel
theorem dX4_received_41 : decode cX4_received 41 = .ok (.invokevirtual 141, 3) := by decide +kernel
theorem dX4_received_44 : decode cX4_received 44 = .ok (.ireturn, 1) := by decide +kernel
set_option maxRecDepth 20000 in
theorem ggX4_total_X2_setting : GoodIn wsX4_total wsX2_setting := goodIn_r _ [8, 9, 164, 165, 166, 167, 168] (by decide +kernel) (by decide +kernel)
set_option maxRecDepth 20000 in
theorem gX4_total_X2_setting : GoodIn wsX4_total (wsV RX4 81 RX2 yX2_setting wsX2_setting) := goodIn_app (goodIn_of _ (by decide +kernel)) ggX4_total_X2_setting
set_option maxRecDepth 20000 in
theorem ggX4_total_X2_end : GoodIn wsX4_total wsX2_end := goodIn_r _ [13, 14, 164, 165, 166, 167, 168] (by decide +kernel) (by decide +kernel)
set_option maxRecDepth 20000 in
theorem gX4_total_X2_end : GoodIn wsX4_total (wsV RX4 58 RX2 yX2_end wsX2_end) := goodIn_app (goodIn_of _ (by decide +kernel)) ggX4_total_X2_end
set_option maxRecDepth 20000 in
theorem ggX4_total_X2_wordCount : GoodIn wsX4_total wsX2_wordCount := goodIn_r _ [18, 19, 164, 165, 166, 167, 168] (by decide +kernel) (by decide +kernel)
set_option maxRecDepth 20000 in
theorem gX4_total_X2_wordCount : GoodIn wsX4_total (wsV RX4 144 RX2 yX2_wordCount wsX2_wordCount) := goodIn_app (goodIn_of _ (by decide +kernel)) ggX4_total_X2_wordCount
set_option maxRecDepth 20000 in
theorem ggX4_total_X2_countFalls : GoodIn wsX4_total wsX2_countFalls := goodIn_r _ [23, 24, 25, 26, 7, 27, 28, 29, 30, 31, 32, 33, 34, 35, 36, 164, 165, 166, 167, 168] (by decide +kernel) (by decide +kernel)
set_option maxRecDepth 20000 in
theorem gX4_total_X2_countFalls : GoodIn wsX4_total (wsV RX4 147 RX2 yX2_countFalls wsX2_countFalls) := goodIn_app (goodIn_of _ (by decide +kernel)) ggX4_total_X2_countFalls
set_option maxRecDepth 20000 in
theorem ggX4_total_X2_countLowTicks : GoodIn wsX4_total wsX2_countLowTicks := goodIn_r _ [40, 28, 29, 30, 31, 32, 33, 34, 35, 36, 164, 165, 166, 167, 168] (by decide +kernel) (by decide +kernel)
set_option maxRecDepth 20000 in
theorem gX4_total_X2_countLowTicks : GoodIn wsX4_total (wsV RX4 150 RX2 yX2_countLowTicks wsX2_countLowTicks) := goodIn_app (goodIn_of _ (by decide +kernel)) ggX4_total_X2_countLowTicks
set_option maxRecDepth 20000 in
theorem ggX4_total_X2_learnedLength : GoodIn wsX4_total wsX2_learnedLength := goodIn_r _ [44, 45, 46, 47, 7, 48, 14, 49, 50, 51, 52, 53, 54, 55, 56, 24, 25, 26, 27, 28, 29, 30, 31, 32, 33, 34, 35, 36, 57, 58, 59, 164, 165, 166, 167, 168] (by decide +kernel) (by decide +kernel)
set_option maxRecDepth 20000 in
theorem gX4_total_X2_learnedLength : GoodIn wsX4_total (wsV RX4 89 RX2 yX2_learnedLength wsX2_learnedLength) := goodIn_app (goodIn_of _ (by decide +kernel)) ggX4_total_X2_learnedLength
set_option maxRecDepth 20000 in
theorem ggX4_total_X0_size : GoodIn wsX4_total wsX0_size := goodIn_r _ [64, 65, 169, 170, 171, 172] (by decide +kernel) (by decide +kernel)
set_option maxRecDepth 20000 in
theorem gX4_total_X0_size : GoodIn wsX4_total (wsV RX4 115 RX0 yX0_size wsX0_size) := goodIn_app (goodIn_of _ (by decide +kernel)) ggX4_total_X0_size
set_option maxRecDepth 20000 in
theorem ggX4_total_X3_length : GoodIn wsX4_total wsX3_length := goodIn_r _ [70, 71, 173, 174, 175, 176] (by decide +kernel) (by decide +kernel)
set_option maxRecDepth 20000 in
theorem gX4_total_X3_length : GoodIn wsX4_total (wsV RX4 96 RX3 yX3_length wsX3_length) := goodIn_app (goodIn_of _ (by decide +kernel)) ggX4_total_X3_length
set_option maxRecDepth 20000 in
theorem ggX4_total_X4_totalReceived : GoodIn wsX4_total wsX4_totalReceived := goodIn_r _ [76, 77, 1, 4, 5, 6, 7, 8, 9, 78, 79, 80, 81, 82, 83, 84, 85, 54, 55, 56, 86, 50, 51, 52, 53, 14, 24, 25, 26, 27, 28, 29, 30, 31, 32, 33, 34, 35, 36, 57, 58, 59, 87, 11, 12, 13, 88, 89, 90, 91, 92, 93, 94, 95, 96, 97, 98, 99, 100, 101, 102, 103, 104, 105, 106, 107, 108, 109, 110, 111, 75, 112, 113, 114, 115, 116, 117, 118, 119, 120, 121, 122, 123, 124, 125, 126, 127, 128, 129, 130, 131, 132, 133, 134, 135, 136, 137, 138, 139, 140, 141, 142, 143, 144, 145, 146, 147, 148, 149, 16, 17, 18, 19, 150, 151, 152, 153, 154, 155, 156, 157, 158, 159, 160, 161, 162, 163, 164, 165, 166, 167, 168, 177, 178, 179, 180] (by decide +kernel) (by decide +kernel)
set_option maxRecDepth 20000 in
theorem gX4_total_X4_totalReceived : GoodIn wsX4_total (wsV RX4 153 RX4 yX4_totalReceived wsX4_totalReceived) := goodIn_app (goodIn_of _ (by decide +kernel)) ggX4_total_X4_totalReceived
theorem dX4_total_0 : decode cX4_total 0 = .ok (.iload_n 1, 1) := by decide +kernel
theorem dX4_total_1 : decode cX4_total 1 = .ok (.ifCond .lt 9, 3) := by decide +kernel
theorem dX4_total_4 : decode cX4_total 4 = .ok (.iload_n 1, 1) := by decide +kernel
theorem dX4_total_5 : decode cX4_total 5 = .ok (.bipush 19, 2) := by decide +kernel
theorem dX4_total_7 : decode cX4_total 7 = .ok (.if_icmp .le 6, 3) := by decide +kernel
theorem dX4_total_10 : decode cX4_total 10 = .ok (.bipush (-2), 2) := by decide +kernel
theorem dX4_total_12 : decode cX4_total 12 = .ok (.ireturn, 1) := by decide +kernel
theorem dX4_total_13 : decode cX4_total 13 = .ok (.iload_n 1, 1) := by decide +kernel
theorem dX4_total_14 : decode cX4_total 14 = .ok (.iconst 5, 1) := by decide +kernel
theorem dX4_total_15 : decode cX4_total 15 = .ok (.if_icmp .ge 12, 3) := by decide +kernel
theorem dX4_total_18 : decode cX4_total 18 = .ok (.aload_n 0, 1) := by decide +kernel
theorem dX4_total_19 : decode cX4_total 19 = .ok (.getfield 12, 3) := by decide +kernel
theorem dX4_total_22 : decode cX4_total 22 = .ok (.iload_n 1, 1) := by decide +kernel
theorem dX4_total_23 : decode cX4_total 23 = .ok (.invokevirtual 81, 3) := by decide +kernel
theorem dX4_total_26 : decode cX4_total 26 = .ok (.ireturn, 1) := by decide +kernel
theorem dX4_total_27 : decode cX4_total 27 = .ok (.iload_n 1, 1) := by decide +kernel
theorem dX4_total_28 : decode cX4_total 28 = .ok (.tableswitch 132 5 19 #[76, 84, 132, 132, 132, 132, 132, 132, 132, 132, 92, 100, 108, 116, 124], 76) := by decide +kernel
theorem dX4_total_104 : decode cX4_total 104 = .ok (.aload_n 0, 1) := by decide +kernel
theorem dX4_total_105 : decode cX4_total 105 = .ok (.getfield 12, 3) := by decide +kernel
theorem dX4_total_108 : decode cX4_total 108 = .ok (.invokevirtual 58, 3) := by decide +kernel
theorem dX4_total_111 : decode cX4_total 111 = .ok (.ireturn, 1) := by decide +kernel
theorem dX4_total_112 : decode cX4_total 112 = .ok (.aload_n 0, 1) := by decide +kernel
theorem dX4_total_113 : decode cX4_total 113 = .ok (.getfield 12, 3) := by decide +kernel
theorem dX4_total_116 : decode cX4_total 116 = .ok (.invokevirtual 144, 3) := by decide +kernel
theorem dX4_total_119 : decode cX4_total 119 = .ok (.ireturn, 1) := by decide +kernel
theorem dX4_total_120 : decode cX4_total 120 = .ok (.aload_n 0, 1) := by decide +kernel
theorem dX4_total_121 : decode cX4_total 121 = .ok (.getfield 12, 3) := by decide +kernel
theorem dX4_total_124 : decode cX4_total 124 = .ok (.invokevirtual 147, 3) := by decide +kernel
theorem dX4_total_127 : decode cX4_total 127 = .ok (.ireturn, 1) := by decide +kernel
theorem dX4_total_128 : decode cX4_total 128 = .ok (.aload_n 0, 1) := by decide +kernel
theorem dX4_total_129 : decode cX4_total 129 = .ok (.getfield 12, 3) := by decide +kernel
theorem dX4_total_132 : decode cX4_total 132 = .ok (.invokevirtual 150, 3) := by decide +kernel
theorem dX4_total_135 : decode cX4_total 135 = .ok (.ireturn, 1) := by decide +kernel
theorem dX4_total_136 : decode cX4_total 136 = .ok (.aload_n 0, 1) := by decide +kernel
theorem dX4_total_137 : decode cX4_total 137 = .ok (.getfield 12, 3) := by decide +kernel
theorem dX4_total_140 : decode cX4_total 140 = .ok (.invokevirtual 89, 3) := by decide +kernel
theorem dX4_total_143 : decode cX4_total 143 = .ok (.ireturn, 1) := by decide +kernel
theorem dX4_total_144 : decode cX4_total 144 = .ok (.aload_n 0, 1) := by decide +kernel
theorem dX4_total_145 : decode cX4_total 145 = .ok (.getfield 36, 3) := by decide +kernel
theorem dX4_total_148 : decode cX4_total 148 = .ok (.invokevirtual 115, 3) := by decide +kernel
theorem dX4_total_151 : decode cX4_total 151 = .ok (.ireturn, 1) := by decide +kernel
theorem dX4_total_152 : decode cX4_total 152 = .ok (.aload_n 0, 1) := by decide +kernel
theorem dX4_total_153 : decode cX4_total 153 = .ok (.getfield 29, 3) := by decide +kernel
theorem dX4_total_156 : decode cX4_total 156 = .ok (.invokevirtual 96, 3) := by decide +kernel
theorem dX4_total_159 : decode cX4_total 159 = .ok (.ireturn, 1) := by decide +kernel
theorem dX4_total_160 : decode cX4_total 160 = .ok (.aload_n 0, 1) := by decide +kernel
theorem dX4_total_161 : decode cX4_total 161 = .ok (.iload_n 1, 1) := by decide +kernel
theorem dX4_total_162 : decode cX4_total 162 = .ok (.invokevirtual 153, 3) := by decide +kernel
theorem dX4_total_165 : decode cX4_total 165 = .ok (.ireturn, 1) := by decide +kernel
set_option maxRecDepth 20000 in
theorem ggX4_ifLength_X1_receive : GoodIn wsX4_ifLength wsX1_receive := goodIn_r _ [7, 8, 9, 10, 11, 12, 13, 14, 15, 16, 17, 18, 19, 20, 21, 22, 23, 24, 25, 26, 27, 28, 29, 30, 31, 32, 33, 34, 35, 36, 37, 38, 39, 40, 41, 42, 43, 6, 44, 45, 46, 47, 48, 49, 50, 51, 52, 53, 54, 55, 56, 57, 58, 59, 60, 61, 62, 63, 64, 65, 66, 67, 68, 69, 70, 71, 72, 73, 74, 75, 76, 77, 78, 79, 80, 81, 82, 122, 123, 124, 125, 126, 127, 128, 129, 130] (by decide +kernel) (by decide +kernel)
set_option maxRecDepth 20000 in
theorem gX4_ifLength_X1_receive : GoodIn wsX4_ifLength (wsV RX4 137 RX1 yX1_receive wsX1_receive) := goodIn_app (goodIn_of _ (by decide +kernel)) ggX4_ifLength_X1_receive
set_option maxRecDepth 20000 in
theorem ggX4_ifLength_X1_count : GoodIn wsX4_ifLength wsX1_count := goodIn_r _ [86, 8, 122, 123, 124, 125] (by decide +kernel) (by decide +kernel)
set_option maxRecDepth 20000 in
theorem gX4_ifLength_X1_count : GoodIn wsX4_ifLength (wsV RX4 156 RX1 yX1_count wsX1_count) := goodIn_app (goodIn_of _ (by decide +kernel)) ggX4_ifLength_X1_count
set_option maxRecDepth 20000 in
theorem ggX4_ifLength_X1_countKind : GoodIn wsX4_ifLength wsX1_countKind := goodIn_r _ [90, 8, 91, 92, 93, 6, 94, 82, 122, 123, 124, 125] (by decide +kernel) (by decide +kernel)
set_option maxRecDepth 20000 in
theorem gX4_ifLength_X1_countKind : GoodIn wsX4_ifLength (wsV RX4 159 RX1 yX1_countKind wsX1_countKind) := goodIn_app (goodIn_of _ (by decide +kernel)) ggX4_ifLength_X1_countKind
set_option maxRecDepth 20000 in
theorem ggX4_ifLength_X1_countDoubtful : GoodIn wsX4_ifLength wsX1_countDoubtful := goodIn_r _ [98, 8, 91, 92, 93, 6, 94, 82, 122, 123, 124, 125] (by decide +kernel) (by decide +kernel)
set_option maxRecDepth 20000 in
theorem gX4_ifLength_X1_countDoubtful : GoodIn wsX4_ifLength (wsV RX4 162 RX1 yX1_countDoubtful wsX1_countDoubtful) := goodIn_app (goodIn_of _ (by decide +kernel)) ggX4_ifLength_X1_countDoubtful
set_option maxRecDepth 20000 in
theorem ggX4_ifLength_X1_isAllWell : GoodIn wsX4_ifLength wsX1_isAllWell := goodIn_r _ [102, 8, 103, 104, 105, 17, 106, 107, 108, 109, 110, 111, 112, 113, 114, 115, 6, 116, 91, 92, 93, 94, 82, 122, 123, 124, 125, 126, 127, 128, 129, 130] (by decide +kernel) (by decide +kernel)
set_option maxRecDepth 20000 in
theorem gX4_ifLength_X1_isAllWell : GoodIn wsX4_ifLength (wsV RX4 165 RX1 yX1_isAllWell wsX1_isAllWell) := goodIn_app (goodIn_of _ (by decide +kernel)) ggX4_ifLength_X1_isAllWell
theorem dX4_ifLength_0 : decode cX4_ifLength 0 = .ok (.iload_n 1, 1) := by decide +kernel
theorem dX4_ifLength_1 : decode cX4_ifLength 1 = .ok (.iconst 4, 1) := by decide +kernel
theorem dX4_ifLength_2 : decode cX4_ifLength 2 = .ok (.if_icmp .lt 18, 3) := by decide +kernel
theorem dX4_ifLength_5 : decode cX4_ifLength 5 = .ok (.iload_n 1, 1) := by decide +kernel
theorem dX4_ifLength_6 : decode cX4_ifLength 6 = .ok (.bipush 40, 2) := by decide +kernel
theorem dX4_ifLength_8 : decode cX4_ifLength 8 = .ok (.if_icmp .gt 12, 3) := by decide +kernel
theorem dX4_ifLength_11 : decode cX4_ifLength 11 = .ok (.iload_n 2, 1) := by decide +kernel
theorem dX4_ifLength_12 : decode cX4_ifLength 12 = .ok (.ifCond .lt 8, 3) := by decide +kernel
theorem dX4_ifLength_15 : decode cX4_ifLength 15 = .ok (.iload_n 2, 1) := by decide +kernel
theorem dX4_ifLength_16 : decode cX4_ifLength 16 = .ok (.iconst 3, 1) := by decide +kernel
theorem dX4_ifLength_17 : decode cX4_ifLength 17 = .ok (.if_icmp .le 6, 3) := by decide +kernel
theorem dX4_ifLength_20 : decode cX4_ifLength 20 = .ok (.bipush (-2), 2) := by decide +kernel
theorem dX4_ifLength_22 : decode cX4_ifLength 22 = .ok (.ireturn, 1) := by decide +kernel
theorem dX4_ifLength_23 : decode cX4_ifLength 23 = .ok (.aload_n 0, 1) := by decide +kernel
theorem dX4_ifLength_24 : decode cX4_ifLength 24 = .ok (.getfield 22, 3) := by decide +kernel
theorem dX4_ifLength_27 : decode cX4_ifLength 27 = .ok (.aload_n 0, 1) := by decide +kernel
theorem dX4_ifLength_28 : decode cX4_ifLength 28 = .ok (.getfield 12, 3) := by decide +kernel
theorem dX4_ifLength_31 : decode cX4_ifLength 31 = .ok (.iload_n 1, 1) := by decide +kernel
theorem dX4_ifLength_32 : decode cX4_ifLength 32 = .ok (.invokevirtual 137, 3) := by decide +kernel
theorem dX4_ifLength_35 : decode cX4_ifLength 35 = .ok (.iload_n 2, 1) := by decide +kernel
theorem dX4_ifLength_36 : decode cX4_ifLength 36 = .ok (.tableswitch 53 0 2 #[28, 36, 45], 28) := by decide +kernel
theorem dX4_ifLength_64 : decode cX4_ifLength 64 = .ok (.aload_n 0, 1) := by decide +kernel
theorem dX4_ifLength_65 : decode cX4_ifLength 65 = .ok (.getfield 22, 3) := by decide +kernel
theorem dX4_ifLength_68 : decode cX4_ifLength 68 = .ok (.invokevirtual 156, 3) := by decide +kernel
theorem dX4_ifLength_71 : decode cX4_ifLength 71 = .ok (.ireturn, 1) := by decide +kernel
theorem dX4_ifLength_72 : decode cX4_ifLength 72 = .ok (.aload_n 0, 1) := by decide +kernel
theorem dX4_ifLength_73 : decode cX4_ifLength 73 = .ok (.getfield 22, 3) := by decide +kernel
theorem dX4_ifLength_76 : decode cX4_ifLength 76 = .ok (.iconst 0, 1) := by decide +kernel
theorem dX4_ifLength_77 : decode cX4_ifLength 77 = .ok (.invokevirtual 159, 3) := by decide +kernel
theorem dX4_ifLength_80 : decode cX4_ifLength 80 = .ok (.ireturn, 1) := by decide +kernel
theorem dX4_ifLength_81 : decode cX4_ifLength 81 = .ok (.aload_n 0, 1) := by decide +kernel
theorem dX4_ifLength_82 : decode cX4_ifLength 82 = .ok (.getfield 22, 3) := by decide +kernel
theorem dX4_ifLength_85 : decode cX4_ifLength 85 = .ok (.invokevirtual 162, 3) := by decide +kernel
theorem dX4_ifLength_88 : decode cX4_ifLength 88 = .ok (.ireturn, 1) := by decide +kernel
theorem dX4_ifLength_89 : decode cX4_ifLength 89 = .ok (.aload_n 0, 1) := by decide +kernel
theorem dX4_ifLength_90 : decode cX4_ifLength 90 = .ok (.getfield 22, 3) := by decide +kernel
theorem dX4_ifLength_93 : decode cX4_ifLength 93 = .ok (.aload_n 0, 1) := by decide +kernel
theorem dX4_ifLength_94 : decode cX4_ifLength 94 = .ok (.getfield 12, 3) := by decide +kernel
theorem dX4_ifLength_97 : decode cX4_ifLength 97 = .ok (.invokevirtual 165, 3) := by decide +kernel
theorem dX4_ifLength_100 : decode cX4_ifLength 100 = .ok (.ifCond .eq 7, 3) := by decide +kernel
theorem dX4_ifLength_103 : decode cX4_ifLength 103 = .ok (.iconst 1, 1) := by decide +kernel
theorem dX4_ifLength_104 : decode cX4_ifLength 104 = .ok (.goto 4, 3) := by decide +kernel
theorem dX4_ifLength_107 : decode cX4_ifLength 107 = .ok (.iconst 0, 1) := by decide +kernel
theorem dX4_ifLength_108 : decode cX4_ifLength 108 = .ok (.ireturn, 1) := by decide +kernel
set_option maxRecDepth 20000 in
theorem ggX4_goodLength_X4_isWellWith : GoodIn wsX4_goodLength wsX4_isWellWith := goodIn_r _ [6, 7, 8, 9, 10, 11, 12, 13, 14, 15, 16, 17, 18, 19, 20, 21, 22, 23, 24, 25, 26, 27, 28, 29, 30, 31, 32, 33, 34, 35, 36, 37, 38, 39, 40, 41, 42, 43, 44, 45, 46, 47, 48, 49, 50, 51, 52, 53, 54, 55, 56, 57, 58, 59, 60, 61, 62, 63, 64, 65, 66, 67, 68, 69, 70, 71, 72, 73, 5, 74, 75, 76, 77, 78, 79, 80, 81, 82, 83, 84, 85, 86, 87, 88, 89, 90, 91, 92, 93, 94, 95, 96, 97, 98, 99, 100, 101, 102, 103, 104, 105, 106, 107, 108, 109, 110, 111, 112, 113, 114, 115, 116, 117, 118, 119, 120, 121, 122] (by decide +kernel) (by decide +kernel)
set_option maxRecDepth 20000 in
theorem gX4_goodLength_X4_isWellWith : GoodIn wsX4_goodLength (wsV RX4 168 RX4 yX4_isWellWith wsX4_isWellWith) := goodIn_app (goodIn_of _ (by decide +kernel)) ggX4_goodLength_X4_isWellWith
theorem dX4_goodLength_0 : decode cX4_goodLength 0 = .ok (.bipush (-5), 2) := by decide +kernel
theorem dX4_goodLength_2 : decode cX4_goodLength 2 = .ok (.istore_n 2, 1) := by decide +kernel
theorem dX4_goodLength_3 : decode cX4_goodLength 3 = .ok (.iconst 4, 1) := by decide +kernel
theorem dX4_goodLength_4 : decode cX4_goodLength 4 = .ok (.istore_n 3, 1) := by decide +kernel
theorem dX4_goodLength_5 : decode cX4_goodLength 5 = .ok (.iload_n 3, 1) := by decide +kernel
theorem dX4_goodLength_6 : decode cX4_goodLength 6 = .ok (.bipush 40, 2) := by decide +kernel
theorem dX4_goodLength_8 : decode cX4_goodLength 8 = .ok (.if_icmp .gt 33, 3) := by decide +kernel
theorem dX4_goodLength_11 : decode cX4_goodLength 11 = .ok (.iload_n 1, 1) := by decide +kernel
theorem dX4_goodLength_12 : decode cX4_goodLength 12 = .ok (.ifCond .ne 9, 3) := by decide +kernel
theorem dX4_goodLength_15 : decode cX4_goodLength 15 = .ok (.iload_n 2, 1) := by decide +kernel
theorem dX4_goodLength_16 : decode cX4_goodLength 16 = .ok (.bipush (-5), 2) := by decide +kernel
theorem dX4_goodLength_18 : decode cX4_goodLength 18 = .ok (.if_icmp .ne 17, 3) := by decide +kernel
theorem dX4_goodLength_21 : decode cX4_goodLength 21 = .ok (.aload_n 0, 1) := by decide +kernel
theorem dX4_goodLength_22 : decode cX4_goodLength 22 = .ok (.aload_n 0, 1) := by decide +kernel
theorem dX4_goodLength_23 : decode cX4_goodLength 23 = .ok (.getfield 12, 3) := by decide +kernel
theorem dX4_goodLength_26 : decode cX4_goodLength 26 = .ok (.iload_n 3, 1) := by decide +kernel
theorem dX4_goodLength_27 : decode cX4_goodLength 27 = .ok (.invokevirtual 168, 3) := by decide +kernel
theorem dX4_goodLength_30 : decode cX4_goodLength 30 = .ok (.ifCond .eq 5, 3) := by decide +kernel
theorem dX4_goodLength_33 : decode cX4_goodLength 33 = .ok (.iload_n 3, 1) := by decide +kernel
theorem dX4_goodLength_34 : decode cX4_goodLength 34 = .ok (.istore_n 2, 1) := by decide +kernel
theorem dX4_goodLength_35 : decode cX4_goodLength 35 = .ok (.iinc 3 1, 3) := by decide +kernel
theorem dX4_goodLength_38 : decode cX4_goodLength 38 = .ok (.goto (-33), 3) := by decide +kernel
theorem dX4_goodLength_41 : decode cX4_goodLength 41 = .ok (.iload_n 2, 1) := by decide +kernel
theorem dX4_goodLength_42 : decode cX4_goodLength 42 = .ok (.ireturn, 1) := by decide +kernel
set_option maxRecDepth 20000 in
theorem ggX4_harm_X4_isDisturbance : GoodIn wsX4_harm wsX4_isDisturbance := goodIn_r _ [6] (by decide +kernel) (by decide +kernel)
set_option maxRecDepth 20000 in
theorem gX4_harm_X4_isDisturbance : GoodIn wsX4_harm (va_wsS RX4 65 yX4_isDisturbance wsX4_isDisturbance) := goodIn_app (goodIn_of _ (by decide +kernel)) ggX4_harm_X4_isDisturbance
set_option maxRecDepth 20000 in
theorem ggX4_harm_X2_copyFrom : GoodIn wsX4_harm wsX2_copyFrom := goodIn_r _ [11, 12, 13, 14, 15, 16, 17, 18, 19, 20, 133, 134, 135, 136, 137] (by decide +kernel) (by decide +kernel)
set_option maxRecDepth 20000 in
theorem gX4_harm_X2_copyFrom : GoodIn wsX4_harm (wsV RX4 105 RX2 yX2_copyFrom wsX2_copyFrom) := goodIn_app (goodIn_of _ (by decide +kernel)) ggX4_harm_X2_copyFrom
set_option maxRecDepth 20000 in
theorem ggX4_harm_X2_end : GoodIn wsX4_harm wsX2_end := goodIn_r _ [24, 19, 133, 134, 135, 136, 137] (by decide +kernel) (by decide +kernel)
set_option maxRecDepth 20000 in
theorem gX4_harm_X2_end : GoodIn wsX4_harm (wsV RX4 58 RX2 yX2_end wsX2_end) := goodIn_app (goodIn_of _ (by decide +kernel)) ggX4_harm_X2_end
set_option maxRecDepth 20000 in
theorem ggX4_harm_X2_flip : GoodIn wsX4_harm wsX2_flip := goodIn_r _ [28, 29, 30, 31, 32, 19, 12, 33, 34, 35, 10, 36, 133, 134, 135, 136, 137] (by decide +kernel) (by decide +kernel)
set_option maxRecDepth 20000 in
theorem gX4_harm_X2_flip : GoodIn wsX4_harm (wsV RX4 68 RX2 yX2_flip wsX2_flip) := goodIn_app (goodIn_of _ (by decide +kernel)) ggX4_harm_X2_flip
set_option maxRecDepth 20000 in
theorem ggX4_harm_X2_setting : GoodIn wsX4_harm wsX2_setting := goodIn_r _ [40, 18, 133, 134, 135, 136, 137] (by decide +kernel) (by decide +kernel)
set_option maxRecDepth 20000 in
theorem gX4_harm_X2_setting : GoodIn wsX4_harm (wsV RX4 81 RX2 yX2_setting wsX2_setting) := goodIn_app (goodIn_of _ (by decide +kernel)) ggX4_harm_X2_setting
set_option maxRecDepth 20000 in
theorem ggX4_harm_X4_isWellWith : GoodIn wsX4_harm wsX4_isWellWith := goodIn_r _ [44, 45, 46, 47, 48, 49, 50, 51, 52, 53, 30, 31, 32, 54, 55, 56, 10, 57, 29, 19, 58, 59, 60, 61, 12, 62, 63, 64, 65, 66, 67, 68, 69, 70, 71, 72, 73, 22, 23, 24, 74, 75, 76, 77, 78, 79, 80, 81, 82, 83, 34, 35, 36, 84, 85, 86, 87, 38, 39, 40, 18, 88, 89, 90, 91, 92, 93, 94, 5, 95, 96, 97, 98, 99, 100, 101, 102, 103, 104, 105, 106, 107, 108, 109, 110, 111, 112, 113, 114, 115, 20, 116, 117, 118, 119, 17, 120, 121, 122, 123, 124, 125, 126, 127, 128, 129, 130, 131, 132, 138, 139, 140, 141, 133, 134, 135, 136, 137] (by decide +kernel) (by decide +kernel)
set_option maxRecDepth 20000 in
theorem gX4_harm_X4_isWellWith : GoodIn wsX4_harm (wsV RX4 168 RX4 yX4_isWellWith wsX4_isWellWith) := goodIn_app (goodIn_of _ (by decide +kernel)) ggX4_harm_X4_isWellWith
theorem dX4_harm_0 : decode cX4_harm 0 = .ok (.iload_n 1, 1) := by decide +kernel
theorem dX4_harm_1 : decode cX4_harm 1 = .ok (.invokestatic 65, 3) := by decide +kernel
theorem dX4_harm_4 : decode cX4_harm 4 = .ok (.ifCond .ne 6, 3) := by decide +kernel
theorem dX4_harm_7 : decode cX4_harm 7 = .ok (.bipush (-2), 2) := by decide +kernel
theorem dX4_harm_9 : decode cX4_harm 9 = .ok (.ireturn, 1) := by decide +kernel
theorem dX4_harm_10 : decode cX4_harm 10 = .ok (.aload_n 0, 1) := by decide +kernel
theorem dX4_harm_11 : decode cX4_harm 11 = .ok (.getfield 16, 3) := by decide +kernel
theorem dX4_harm_14 : decode cX4_harm 14 = .ok (.aload_n 0, 1) := by decide +kernel
theorem dX4_harm_15 : decode cX4_harm 15 = .ok (.getfield 12, 3) := by decide +kernel
theorem dX4_harm_18 : decode cX4_harm 18 = .ok (.invokevirtual 105, 3) := by decide +kernel
theorem dX4_harm_21 : decode cX4_harm 21 = .ok (.iconst 0, 1) := by decide +kernel
theorem dX4_harm_22 : decode cX4_harm 22 = .ok (.istore_n 2, 1) := by decide +kernel
theorem dX4_harm_23 : decode cX4_harm 23 = .ok (.iload_n 2, 1) := by decide +kernel
theorem dX4_harm_24 : decode cX4_harm 24 = .ok (.aload_n 0, 1) := by decide +kernel
theorem dX4_harm_25 : decode cX4_harm 25 = .ok (.getfield 12, 3) := by decide +kernel
theorem dX4_harm_28 : decode cX4_harm 28 = .ok (.invokevirtual 58, 3) := by decide +kernel
theorem dX4_harm_31 : decode cX4_harm 31 = .ok (.iload_n 1, 1) := by decide +kernel
theorem dX4_harm_32 : decode cX4_harm 32 = .ok (.isub, 1) := by decide +kernel
theorem dX4_harm_33 : decode cX4_harm 33 = .ok (.if_icmp .gt 52, 3) := by decide +kernel
theorem dX4_harm_36 : decode cX4_harm 36 = .ok (.aload_n 0, 1) := by decide +kernel
theorem dX4_harm_37 : decode cX4_harm 37 = .ok (.getfield 16, 3) := by decide +kernel
theorem dX4_harm_40 : decode cX4_harm 40 = .ok (.iload_n 2, 1) := by decide +kernel
theorem dX4_harm_41 : decode cX4_harm 41 = .ok (.iload_n 1, 1) := by decide +kernel
theorem dX4_harm_42 : decode cX4_harm 42 = .ok (.invokevirtual 68, 3) := by decide +kernel
theorem dX4_harm_45 : decode cX4_harm 45 = .ok (.pop, 1) := by decide +kernel
theorem dX4_harm_46 : decode cX4_harm 46 = .ok (.aload_n 0, 1) := by decide +kernel
theorem dX4_harm_47 : decode cX4_harm 47 = .ok (.aload_n 0, 1) := by decide +kernel
theorem dX4_harm_48 : decode cX4_harm 48 = .ok (.getfield 16, 3) := by decide +kernel
theorem dX4_harm_51 : decode cX4_harm 51 = .ok (.aload_n 0, 1) := by decide +kernel
theorem dX4_harm_52 : decode cX4_harm 52 = .ok (.getfield 16, 3) := by decide +kernel
theorem dX4_harm_55 : decode cX4_harm 55 = .ok (.iconst 1, 1) := by decide +kernel
theorem dX4_harm_56 : decode cX4_harm 56 = .ok (.invokevirtual 81, 3) := by decide +kernel
theorem dX4_harm_59 : decode cX4_harm 59 = .ok (.invokevirtual 168, 3) := by decide +kernel
theorem dX4_harm_62 : decode cX4_harm 62 = .ok (.istore_n 3, 1) := by decide +kernel
theorem dX4_harm_63 : decode cX4_harm 63 = .ok (.aload_n 0, 1) := by decide +kernel
theorem dX4_harm_64 : decode cX4_harm 64 = .ok (.getfield 16, 3) := by decide +kernel
theorem dX4_harm_67 : decode cX4_harm 67 = .ok (.iload_n 2, 1) := by decide +kernel
theorem dX4_harm_68 : decode cX4_harm 68 = .ok (.iload_n 1, 1) := by decide +kernel
theorem dX4_harm_69 : decode cX4_harm 69 = .ok (.invokevirtual 68, 3) := by decide +kernel
theorem dX4_harm_72 : decode cX4_harm 72 = .ok (.pop, 1) := by decide +kernel
theorem dX4_harm_73 : decode cX4_harm 73 = .ok (.iload_n 3, 1) := by decide +kernel
theorem dX4_harm_74 : decode cX4_harm 74 = .ok (.ifCond .ne 5, 3) := by decide +kernel
theorem dX4_harm_77 : decode cX4_harm 77 = .ok (.iload_n 2, 1) := by decide +kernel
theorem dX4_harm_78 : decode cX4_harm 78 = .ok (.ireturn, 1) := by decide +kernel
theorem dX4_harm_79 : decode cX4_harm 79 = .ok (.iinc 2 1, 3) := by decide +kernel
theorem dX4_harm_82 : decode cX4_harm 82 = .ok (.goto (-59), 3) := by decide +kernel
theorem dX4_harm_85 : decode cX4_harm 85 = .ok (.bipush (-5), 2) := by decide +kernel
theorem dX4_harm_87 : decode cX4_harm 87 = .ok (.ireturn, 1) := by decide +kernel
set_option maxRecDepth 20000 in
theorem ggX4_ifSent_X4_isWord : GoodIn wsX4_ifSent wsX4_isWord := goodIn_r _ [7] (by decide +kernel) (by decide +kernel)
set_option maxRecDepth 20000 in
theorem gX4_ifSent_X4_isWord : GoodIn wsX4_ifSent (va_wsS RX4 40 yX4_isWord wsX4_isWord) := goodIn_app (goodIn_of _ (by decide +kernel)) ggX4_ifSent_X4_isWord
set_option maxRecDepth 20000 in
theorem ggX4_ifSent_X2_copyFrom : GoodIn wsX4_ifSent wsX2_copyFrom := goodIn_r _ [12, 13, 14, 15, 16, 17, 18, 19, 20, 21, 139, 140, 141, 142, 143] (by decide +kernel) (by decide +kernel)
set_option maxRecDepth 20000 in
theorem gX4_ifSent_X2_copyFrom : GoodIn wsX4_ifSent (wsV RX4 105 RX2 yX2_copyFrom wsX2_copyFrom) := goodIn_app (goodIn_of _ (by decide +kernel)) ggX4_ifSent_X2_copyFrom
set_option maxRecDepth 20000 in
theorem ggX4_ifSent_X2_addWord : GoodIn wsX4_ifSent wsX2_addWord := goodIn_r _ [25, 21, 19, 20, 18, 26, 27, 28, 11, 29, 30, 31, 32, 33, 34, 35, 36, 37, 38, 39, 40, 41, 42, 6, 43, 44, 45, 46, 47, 48, 49, 50, 51, 52, 53, 54, 55, 56, 57, 58, 13, 59, 139, 140, 141, 142, 143] (by decide +kernel) (by decide +kernel)
set_option maxRecDepth 20000 in
theorem gX4_ifSent_X2_addWord : GoodIn wsX4_ifSent (wsV RX4 55 RX2 yX2_addWord wsX2_addWord) := goodIn_app (goodIn_of _ (by decide +kernel)) ggX4_ifSent_X2_addWord
set_option maxRecDepth 20000 in
theorem ggX4_ifSent_X2_setting : GoodIn wsX4_ifSent wsX2_setting := goodIn_r _ [63, 19, 139, 140, 141, 142, 143] (by decide +kernel) (by decide +kernel)
set_option maxRecDepth 20000 in
theorem gX4_ifSent_X2_setting : GoodIn wsX4_ifSent (wsV RX4 81 RX2 yX2_setting wsX2_setting) := goodIn_app (goodIn_of _ (by decide +kernel)) ggX4_ifSent_X2_setting
set_option maxRecDepth 20000 in
theorem ggX4_ifSent_X1_receive : GoodIn wsX4_ifSent wsX1_receive := goodIn_r _ [68, 69, 70, 71, 56, 57, 58, 72, 73, 74, 11, 75, 55, 20, 76, 77, 78, 79, 13, 59, 80, 81, 82, 83, 84, 85, 86, 87, 88, 89, 90, 91, 92, 93, 94, 95, 96, 67, 97, 98, 99, 100, 101, 102, 103, 104, 105, 106, 107, 108, 109, 110, 61, 62, 63, 19, 111, 112, 113, 114, 115, 116, 42, 6, 43, 44, 45, 46, 47, 48, 49, 50, 117, 118, 119, 120, 121, 144, 145, 146, 147, 139, 140, 141, 142, 143] (by decide +kernel) (by decide +kernel)
set_option maxRecDepth 20000 in
theorem gX4_ifSent_X1_receive : GoodIn wsX4_ifSent (wsV RX4 137 RX1 yX1_receive wsX1_receive) := goodIn_app (goodIn_of _ (by decide +kernel)) ggX4_ifSent_X1_receive
set_option maxRecDepth 20000 in
theorem ggX4_ifSent_X1_countGoodWord : GoodIn wsX4_ifSent wsX1_countGoodWord := goodIn_r _ [125, 69, 126, 127, 128, 67, 129, 130, 131, 132, 133, 121, 144, 145, 146, 147] (by decide +kernel) (by decide +kernel)
set_option maxRecDepth 20000 in
theorem gX4_ifSent_X1_countGoodWord : GoodIn wsX4_ifSent (wsV RX4 172 RX1 yX1_countGoodWord wsX1_countGoodWord) := goodIn_app (goodIn_of _ (by decide +kernel)) ggX4_ifSent_X1_countGoodWord
theorem dX4_ifSent_0 : decode cX4_ifSent 0 = .ok (.iload_n 1, 1) := by decide +kernel
theorem dX4_ifSent_1 : decode cX4_ifSent 1 = .ok (.invokestatic 40, 3) := by decide +kernel
theorem dX4_ifSent_4 : decode cX4_ifSent 4 = .ok (.ifCond .ne 6, 3) := by decide +kernel
theorem dX4_ifSent_7 : decode cX4_ifSent 7 = .ok (.bipush (-2), 2) := by decide +kernel
theorem dX4_ifSent_9 : decode cX4_ifSent 9 = .ok (.ireturn, 1) := by decide +kernel
theorem dX4_ifSent_10 : decode cX4_ifSent 10 = .ok (.aload_n 0, 1) := by decide +kernel
theorem dX4_ifSent_11 : decode cX4_ifSent 11 = .ok (.getfield 16, 3) := by decide +kernel
theorem dX4_ifSent_14 : decode cX4_ifSent 14 = .ok (.aload_n 0, 1) := by decide +kernel
theorem dX4_ifSent_15 : decode cX4_ifSent 15 = .ok (.getfield 12, 3) := by decide +kernel
theorem dX4_ifSent_18 : decode cX4_ifSent 18 = .ok (.invokevirtual 105, 3) := by decide +kernel
theorem dX4_ifSent_21 : decode cX4_ifSent 21 = .ok (.aload_n 0, 1) := by decide +kernel
theorem dX4_ifSent_22 : decode cX4_ifSent 22 = .ok (.getfield 16, 3) := by decide +kernel
theorem dX4_ifSent_25 : decode cX4_ifSent 25 = .ok (.iload_n 1, 1) := by decide +kernel
theorem dX4_ifSent_26 : decode cX4_ifSent 26 = .ok (.invokevirtual 55, 3) := by decide +kernel
theorem dX4_ifSent_29 : decode cX4_ifSent 29 = .ok (.ifCond .ne 6, 3) := by decide +kernel
theorem dX4_ifSent_32 : decode cX4_ifSent 32 = .ok (.bipush (-3), 2) := by decide +kernel
theorem dX4_ifSent_34 : decode cX4_ifSent 34 = .ok (.ireturn, 1) := by decide +kernel
theorem dX4_ifSent_35 : decode cX4_ifSent 35 = .ok (.aload_n 0, 1) := by decide +kernel
theorem dX4_ifSent_36 : decode cX4_ifSent 36 = .ok (.getfield 22, 3) := by decide +kernel
theorem dX4_ifSent_39 : decode cX4_ifSent 39 = .ok (.aload_n 0, 1) := by decide +kernel
theorem dX4_ifSent_40 : decode cX4_ifSent 40 = .ok (.getfield 16, 3) := by decide +kernel
theorem dX4_ifSent_43 : decode cX4_ifSent 43 = .ok (.aload_n 0, 1) := by decide +kernel
theorem dX4_ifSent_44 : decode cX4_ifSent 44 = .ok (.getfield 16, 3) := by decide +kernel
theorem dX4_ifSent_47 : decode cX4_ifSent 47 = .ok (.iconst 1, 1) := by decide +kernel
theorem dX4_ifSent_48 : decode cX4_ifSent 48 = .ok (.invokevirtual 81, 3) := by decide +kernel
theorem dX4_ifSent_51 : decode cX4_ifSent 51 = .ok (.invokevirtual 137, 3) := by decide +kernel
theorem dX4_ifSent_54 : decode cX4_ifSent 54 = .ok (.aload_n 0, 1) := by decide +kernel
theorem dX4_ifSent_55 : decode cX4_ifSent 55 = .ok (.getfield 22, 3) := by decide +kernel
theorem dX4_ifSent_58 : decode cX4_ifSent 58 = .ok (.iload_n 1, 1) := by decide +kernel
theorem dX4_ifSent_59 : decode cX4_ifSent 59 = .ok (.invokevirtual 172, 3) := by decide +kernel
theorem dX4_ifSent_62 : decode cX4_ifSent 62 = .ok (.ireturn, 1) := by decide +kernel
theorem dX4_isWord_0 : decode cX4_isWord 0 = .ok (.iload_n 0, 1) := by decide +kernel
theorem dX4_isWord_1 : decode cX4_isWord 1 = .ok (.ifCond .lt 14, 3) := by decide +kernel
theorem dX4_isWord_4 : decode cX4_isWord 4 = .ok (.iload_n 0, 1) := by decide +kernel
theorem dX4_isWord_5 : decode cX4_isWord 5 = .ok (.sipush 255, 3) := by decide +kernel
theorem dX4_isWord_8 : decode cX4_isWord 8 = .ok (.if_icmp .gt 7, 3) := by decide +kernel
theorem dX4_isWord_11 : decode cX4_isWord 11 = .ok (.iconst 1, 1) := by decide +kernel
theorem dX4_isWord_12 : decode cX4_isWord 12 = .ok (.goto 4, 3) := by decide +kernel
theorem dX4_isWord_15 : decode cX4_isWord 15 = .ok (.iconst 0, 1) := by decide +kernel
theorem dX4_isWord_16 : decode cX4_isWord 16 = .ok (.ireturn, 1) := by decide +kernel
theorem dX4_isDisturbance_0 : decode cX4_isDisturbance 0 = .ok (.iload_n 0, 1) := by decide +kernel
theorem dX4_isDisturbance_1 : decode cX4_isDisturbance 1 = .ok (.iconst 1, 1) := by decide +kernel
theorem dX4_isDisturbance_2 : decode cX4_isDisturbance 2 = .ok (.if_icmp .lt 13, 3) := by decide +kernel
theorem dX4_isDisturbance_5 : decode cX4_isDisturbance 5 = .ok (.iload_n 0, 1) := by decide +kernel
theorem dX4_isDisturbance_6 : decode cX4_isDisturbance 6 = .ok (.bipush 40, 2) := by decide +kernel
theorem dX4_isDisturbance_8 : decode cX4_isDisturbance 8 = .ok (.if_icmp .gt 7, 3) := by decide +kernel
theorem dX4_isDisturbance_11 : decode cX4_isDisturbance 11 = .ok (.iconst 1, 1) := by decide +kernel
theorem dX4_isDisturbance_12 : decode cX4_isDisturbance 12 = .ok (.goto 4, 3) := by decide +kernel
theorem dX4_isDisturbance_15 : decode cX4_isDisturbance 15 = .ok (.iconst 0, 1) := by decide +kernel
theorem dX4_isDisturbance_16 : decode cX4_isDisturbance 16 = .ok (.ireturn, 1) := by decide +kernel
set_option maxRecDepth 20000 in
theorem ggX4_parityOf_J6_bitCount_0f7a4 : GoodIn wsX4_parityOf wsJ6_bitCount_0f7a4 := goodIn_r _ [4, 5, 6, 7] (by decide +kernel) (by decide +kernel)
set_option maxRecDepth 20000 in
theorem gX4_parityOf_J6_bitCount_0f7a4 : GoodIn wsX4_parityOf (va_wsS RX4 175 yJ6_bitCount_0f7a4 wsJ6_bitCount_0f7a4) := goodIn_app (goodIn_of _ (by decide +kernel)) ggX4_parityOf_J6_bitCount_0f7a4
theorem dX4_parityOf_0 : decode cX4_parityOf 0 = .ok (.iload_n 0, 1) := by decide +kernel
theorem dX4_parityOf_1 : decode cX4_parityOf 1 = .ok (.invokestatic 175, 3) := by decide +kernel
theorem dX4_parityOf_4 : decode cX4_parityOf 4 = .ok (.iconst 1, 1) := by decide +kernel
theorem dX4_parityOf_5 : decode cX4_parityOf 5 = .ok (.iand, 1) := by decide +kernel
theorem dX4_parityOf_6 : decode cX4_parityOf 6 = .ok (.istore_n 2, 1) := by decide +kernel
theorem dX4_parityOf_7 : decode cX4_parityOf 7 = .ok (.iload_n 1, 1) := by decide +kernel
theorem dX4_parityOf_8 : decode cX4_parityOf 8 = .ok (.iconst 1, 1) := by decide +kernel
theorem dX4_parityOf_9 : decode cX4_parityOf 9 = .ok (.if_icmp .ne 7, 3) := by decide +kernel
theorem dX4_parityOf_12 : decode cX4_parityOf 12 = .ok (.iload_n 2, 1) := by decide +kernel
theorem dX4_parityOf_13 : decode cX4_parityOf 13 = .ok (.goto 6, 3) := by decide +kernel
theorem dX4_parityOf_16 : decode cX4_parityOf 16 = .ok (.iconst 1, 1) := by decide +kernel
theorem dX4_parityOf_17 : decode cX4_parityOf 17 = .ok (.iload_n 2, 1) := by decide +kernel
theorem dX4_parityOf_18 : decode cX4_parityOf 18 = .ok (.isub, 1) := by decide +kernel
theorem dX4_parityOf_19 : decode cX4_parityOf 19 = .ok (.ireturn, 1) := by decide +kernel
set_option maxRecDepth 20000 in
theorem ggX4_sendStretch_X2_hasRoom : GoodIn wsX4_sendStretch wsX2_hasRoom := goodIn_r _ [7, 8, 55, 56, 57, 58, 59] (by decide +kernel) (by decide +kernel)
set_option maxRecDepth 20000 in
theorem gX4_sendStretch_X2_hasRoom : GoodIn wsX4_sendStretch (wsV RX4 48 RX2 yX2_hasRoom wsX2_hasRoom) := goodIn_app (goodIn_of _ (by decide +kernel)) ggX4_sendStretch_X2_hasRoom
set_option maxRecDepth 20000 in
theorem ggX4_sendStretch_X0_remember : GoodIn wsX4_sendStretch wsX0_remember := goodIn_r _ [13, 14, 15, 16, 17, 18, 12, 19, 20, 21, 22, 6, 23, 24, 25, 26, 27, 28, 29, 30, 8, 31, 60, 61, 62, 63, 55, 56, 57, 58, 59] (by decide +kernel) (by decide +kernel)
set_option maxRecDepth 20000 in
theorem gX4_sendStretch_X0_remember : GoodIn wsX4_sendStretch (wsV RX4 51 RX0 yX0_remember wsX0_remember) := goodIn_app (goodIn_of _ (by decide +kernel)) ggX4_sendStretch_X0_remember
set_option maxRecDepth 20000 in
theorem ggX4_sendStretch_X2_addStretch : GoodIn wsX4_sendStretch wsX2_addStretch := goodIn_r _ [35, 8, 36, 4, 5, 6, 7, 37, 38, 39, 40, 41, 42, 43, 44, 24, 45, 55, 56, 57, 58, 59] (by decide +kernel) (by decide +kernel)
set_option maxRecDepth 20000 in
theorem gX4_sendStretch_X2_addStretch : GoodIn wsX4_sendStretch (wsV RX4 180 RX2 yX2_addStretch wsX2_addStretch) := goodIn_app (goodIn_of _ (by decide +kernel)) ggX4_sendStretch_X2_addStretch
set_option maxRecDepth 20000 in
theorem ggX4_sendStretch_X2_end : GoodIn wsX4_sendStretch wsX2_end := goodIn_r _ [49, 8, 55, 56, 57, 58, 59] (by decide +kernel) (by decide +kernel)
set_option maxRecDepth 20000 in
theorem gX4_sendStretch_X2_end : GoodIn wsX4_sendStretch (wsV RX4 58 RX2 yX2_end wsX2_end) := goodIn_app (goodIn_of _ (by decide +kernel)) ggX4_sendStretch_X2_end
theorem dX4_sendStretch_0 : decode cX4_sendStretch 0 = .ok (.iload_n 2, 1) := by decide +kernel
theorem dX4_sendStretch_1 : decode cX4_sendStretch 1 = .ok (.iconst 1, 1) := by decide +kernel
theorem dX4_sendStretch_2 : decode cX4_sendStretch 2 = .ok (.if_icmp .lt 10, 3) := by decide +kernel
theorem dX4_sendStretch_5 : decode cX4_sendStretch 5 = .ok (.iload_n 2, 1) := by decide +kernel
theorem dX4_sendStretch_6 : decode cX4_sendStretch 6 = .ok (.sipush 500, 3) := by decide +kernel
theorem dX4_sendStretch_9 : decode cX4_sendStretch 9 = .ok (.if_icmp .le 6, 3) := by decide +kernel
theorem dX4_sendStretch_12 : decode cX4_sendStretch 12 = .ok (.bipush (-2), 2) := by decide +kernel
theorem dX4_sendStretch_14 : decode cX4_sendStretch 14 = .ok (.ireturn, 1) := by decide +kernel
theorem dX4_sendStretch_15 : decode cX4_sendStretch 15 = .ok (.aload_n 0, 1) := by decide +kernel
theorem dX4_sendStretch_16 : decode cX4_sendStretch 16 = .ok (.getfield 12, 3) := by decide +kernel
theorem dX4_sendStretch_19 : decode cX4_sendStretch 19 = .ok (.iload_n 2, 1) := by decide +kernel
theorem dX4_sendStretch_20 : decode cX4_sendStretch 20 = .ok (.invokevirtual 48, 3) := by decide +kernel
theorem dX4_sendStretch_23 : decode cX4_sendStretch 23 = .ok (.ifCond .ne 6, 3) := by decide +kernel
theorem dX4_sendStretch_26 : decode cX4_sendStretch 26 = .ok (.bipush (-3), 2) := by decide +kernel
theorem dX4_sendStretch_28 : decode cX4_sendStretch 28 = .ok (.ireturn, 1) := by decide +kernel
theorem dX4_sendStretch_29 : decode cX4_sendStretch 29 = .ok (.aload_n 0, 1) := by decide +kernel
theorem dX4_sendStretch_30 : decode cX4_sendStretch 30 = .ok (.getfield 36, 3) := by decide +kernel
theorem dX4_sendStretch_33 : decode cX4_sendStretch 33 = .ok (.aload_n 0, 1) := by decide +kernel
theorem dX4_sendStretch_34 : decode cX4_sendStretch 34 = .ok (.getfield 12, 3) := by decide +kernel
theorem dX4_sendStretch_37 : decode cX4_sendStretch 37 = .ok (.invokevirtual 51, 3) := by decide +kernel
theorem dX4_sendStretch_40 : decode cX4_sendStretch 40 = .ok (.aload_n 0, 1) := by decide +kernel
theorem dX4_sendStretch_41 : decode cX4_sendStretch 41 = .ok (.getfield 12, 3) := by decide +kernel
theorem dX4_sendStretch_44 : decode cX4_sendStretch 44 = .ok (.iload_n 1, 1) := by decide +kernel
theorem dX4_sendStretch_45 : decode cX4_sendStretch 45 = .ok (.iload_n 2, 1) := by decide +kernel
theorem dX4_sendStretch_46 : decode cX4_sendStretch 46 = .ok (.invokevirtual 180, 3) := by decide +kernel
theorem dX4_sendStretch_49 : decode cX4_sendStretch 49 = .ok (.pop, 1) := by decide +kernel
theorem dX4_sendStretch_50 : decode cX4_sendStretch 50 = .ok (.aload_n 0, 1) := by decide +kernel
theorem dX4_sendStretch_51 : decode cX4_sendStretch 51 = .ok (.getfield 12, 3) := by decide +kernel
theorem dX4_sendStretch_54 : decode cX4_sendStretch 54 = .ok (.invokevirtual 58, 3) := by decide +kernel
theorem dX4_sendStretch_57 : decode cX4_sendStretch 57 = .ok (.ireturn, 1) := by decide +kernel
set_option maxRecDepth 20000 in
theorem ggX4_isWellWith_X1_receive : GoodIn wsX4_isWellWith wsX1_receive := goodIn_r _ [6, 7, 8, 9, 10, 11, 12, 13, 14, 15, 16, 17, 18, 19, 20, 21, 22, 23, 24, 25, 26, 27, 28, 29, 30, 31, 32, 33, 34, 35, 36, 37, 38, 39, 40, 41, 42, 5, 43, 44, 45, 46, 47, 48, 49, 50, 51, 52, 53, 54, 55, 56, 57, 58, 59, 60, 61, 62, 63, 64, 65, 66, 67, 68, 69, 70, 71, 72, 73, 74, 75, 76, 77, 78, 79, 80, 81, 109, 110, 111, 112, 113, 114, 115, 116, 117] (by decide +kernel) (by decide +kernel)
set_option maxRecDepth 20000 in
theorem gX4_isWellWith_X1_receive : GoodIn wsX4_isWellWith (wsV RX4 137 RX1 yX1_receive wsX1_receive) := goodIn_app (goodIn_of _ (by decide +kernel)) ggX4_isWellWith_X1_receive
set_option maxRecDepth 20000 in
theorem ggX4_isWellWith_X1_isAllWell : GoodIn wsX4_isWellWith wsX1_isAllWell := goodIn_r _ [85, 7, 86, 87, 88, 16, 89, 90, 91, 92, 93, 94, 95, 96, 97, 98, 5, 99, 100, 101, 102, 103, 81, 109, 110, 111, 112, 113, 114, 115, 116, 117] (by decide +kernel) (by decide +kernel)
set_option maxRecDepth 20000 in
theorem gX4_isWellWith_X1_isAllWell : GoodIn wsX4_isWellWith (wsV RX4 165 RX1 yX1_isAllWell wsX1_isAllWell) := goodIn_app (goodIn_of _ (by decide +kernel)) ggX4_isWellWith_X1_isAllWell
theorem dX4_isWellWith_0 : decode cX4_isWellWith 0 = .ok (.aload_n 0, 1) := by decide +kernel
theorem dX4_isWellWith_1 : decode cX4_isWellWith 1 = .ok (.getfield 22, 3) := by decide +kernel
theorem dX4_isWellWith_4 : decode cX4_isWellWith 4 = .ok (.aload_n 1, 1) := by decide +kernel
theorem dX4_isWellWith_5 : decode cX4_isWellWith 5 = .ok (.iload_n 2, 1) := by decide +kernel
theorem dX4_isWellWith_6 : decode cX4_isWellWith 6 = .ok (.invokevirtual 137, 3) := by decide +kernel
theorem dX4_isWellWith_9 : decode cX4_isWellWith 9 = .ok (.aload_n 0, 1) := by decide +kernel
theorem dX4_isWellWith_10 : decode cX4_isWellWith 10 = .ok (.getfield 22, 3) := by decide +kernel
theorem dX4_isWellWith_13 : decode cX4_isWellWith 13 = .ok (.aload_n 1, 1) := by decide +kernel
theorem dX4_isWellWith_14 : decode cX4_isWellWith 14 = .ok (.invokevirtual 165, 3) := by decide +kernel
theorem dX4_isWellWith_17 : decode cX4_isWellWith 17 = .ok (.ireturn, 1) := by decide +kernel
set_option maxRecDepth 20000 in
theorem ggX4_totalReceived_X2_setting : GoodIn wsX4_totalReceived wsX2_setting := goodIn_r _ [7, 8, 127, 128, 129, 130, 131] (by decide +kernel) (by decide +kernel)
set_option maxRecDepth 20000 in
theorem gX4_totalReceived_X2_setting : GoodIn wsX4_totalReceived (wsV RX4 81 RX2 yX2_setting wsX2_setting) := goodIn_app (goodIn_of _ (by decide +kernel)) ggX4_totalReceived_X2_setting
set_option maxRecDepth 20000 in
theorem ggX4_totalReceived_X1_receive : GoodIn wsX4_totalReceived wsX1_receive := goodIn_r _ [13, 14, 15, 16, 17, 18, 19, 20, 21, 22, 6, 23, 24, 25, 26, 27, 28, 29, 30, 31, 32, 33, 34, 35, 36, 37, 38, 39, 40, 41, 42, 43, 44, 45, 46, 47, 48, 12, 49, 50, 51, 52, 53, 54, 55, 56, 57, 58, 59, 60, 61, 62, 4, 5, 7, 8, 63, 64, 65, 66, 67, 68, 69, 70, 71, 72, 73, 74, 75, 76, 77, 78, 79, 80, 81, 82, 83, 132, 133, 134, 135, 127, 128, 129, 130, 131] (by decide +kernel) (by decide +kernel)
set_option maxRecDepth 20000 in
theorem gX4_totalReceived_X1_receive : GoodIn wsX4_totalReceived (wsV RX4 137 RX1 yX1_receive wsX1_receive) := goodIn_app (goodIn_of _ (by decide +kernel)) ggX4_totalReceived_X1_receive
set_option maxRecDepth 20000 in
theorem ggX4_totalReceived_X1_count : GoodIn wsX4_totalReceived wsX1_count := goodIn_r _ [87, 14, 132, 133, 134, 135] (by decide +kernel) (by decide +kernel)
set_option maxRecDepth 20000 in
theorem gX4_totalReceived_X1_count : GoodIn wsX4_totalReceived (wsV RX4 156 RX1 yX1_count wsX1_count) := goodIn_app (goodIn_of _ (by decide +kernel)) ggX4_totalReceived_X1_count
set_option maxRecDepth 20000 in
theorem ggX4_totalReceived_X1_countKind : GoodIn wsX4_totalReceived wsX1_countKind := goodIn_r _ [91, 14, 92, 93, 94, 12, 95, 83, 132, 133, 134, 135] (by decide +kernel) (by decide +kernel)
set_option maxRecDepth 20000 in
theorem gX4_totalReceived_X1_countKind : GoodIn wsX4_totalReceived (wsV RX4 159 RX1 yX1_countKind wsX1_countKind) := goodIn_app (goodIn_of _ (by decide +kernel)) ggX4_totalReceived_X1_countKind
set_option maxRecDepth 20000 in
theorem ggX4_totalReceived_X1_falseStarts : GoodIn wsX4_totalReceived wsX1_falseStarts := goodIn_r _ [99, 15, 132, 133, 134, 135] (by decide +kernel) (by decide +kernel)
set_option maxRecDepth 20000 in
theorem gX4_totalReceived_X1_falseStarts : GoodIn wsX4_totalReceived (wsV RX4 184 RX1 yX1_falseStarts wsX1_falseStarts) := goodIn_app (goodIn_of _ (by decide +kernel)) ggX4_totalReceived_X1_falseStarts
set_option maxRecDepth 20000 in
theorem ggX4_totalReceived_X1_countDoubtful : GoodIn wsX4_totalReceived wsX1_countDoubtful := goodIn_r _ [103, 14, 92, 93, 94, 12, 95, 83, 132, 133, 134, 135] (by decide +kernel) (by decide +kernel)
set_option maxRecDepth 20000 in
theorem gX4_totalReceived_X1_countDoubtful : GoodIn wsX4_totalReceived (wsV RX4 162 RX1 yX1_countDoubtful wsX1_countDoubtful) := goodIn_app (goodIn_of _ (by decide +kernel)) ggX4_totalReceived_X1_countDoubtful
set_option maxRecDepth 20000 in
theorem ggX4_totalReceived_X1_isAllWell : GoodIn wsX4_totalReceived wsX1_isAllWell := goodIn_r _ [107, 14, 108, 109, 110, 6, 111, 112, 113, 114, 115, 116, 117, 118, 119, 120, 12, 121, 92, 93, 94, 95, 83, 132, 133, 134, 135, 127, 128, 129, 130, 131] (by decide +kernel) (by decide +kernel)
set_option maxRecDepth 20000 in
theorem gX4_totalReceived_X1_isAllWell : GoodIn wsX4_totalReceived (wsV RX4 165 RX1 yX1_isAllWell wsX1_isAllWell) := goodIn_app (goodIn_of _ (by decide +kernel)) ggX4_totalReceived_X1_isAllWell
theorem dX4_totalReceived_0 : decode cX4_totalReceived 0 = .ok (.aload_n 0, 1) := by decide +kernel
theorem dX4_totalReceived_1 : decode cX4_totalReceived 1 = .ok (.getfield 22, 3) := by decide +kernel
theorem dX4_totalReceived_4 : decode cX4_totalReceived 4 = .ok (.aload_n 0, 1) := by decide +kernel
theorem dX4_totalReceived_5 : decode cX4_totalReceived 5 = .ok (.getfield 12, 3) := by decide +kernel
theorem dX4_totalReceived_8 : decode cX4_totalReceived 8 = .ok (.aload_n 0, 1) := by decide +kernel
theorem dX4_totalReceived_9 : decode cX4_totalReceived 9 = .ok (.getfield 12, 3) := by decide +kernel
theorem dX4_totalReceived_12 : decode cX4_totalReceived 12 = .ok (.iconst 1, 1) := by decide +kernel
theorem dX4_totalReceived_13 : decode cX4_totalReceived 13 = .ok (.invokevirtual 81, 3) := by decide +kernel
theorem dX4_totalReceived_16 : decode cX4_totalReceived 16 = .ok (.invokevirtual 137, 3) := by decide +kernel
theorem dX4_totalReceived_19 : decode cX4_totalReceived 19 = .ok (.iload_n 1, 1) := by decide +kernel
theorem dX4_totalReceived_20 : decode cX4_totalReceived 20 = .ok (.tableswitch 104 7 13 #[44, 52, 61, 70, 79, 88, 96], 44) := by decide +kernel
theorem dX4_totalReceived_64 : decode cX4_totalReceived 64 = .ok (.aload_n 0, 1) := by decide +kernel
theorem dX4_totalReceived_65 : decode cX4_totalReceived 65 = .ok (.getfield 22, 3) := by decide +kernel
theorem dX4_totalReceived_68 : decode cX4_totalReceived 68 = .ok (.invokevirtual 156, 3) := by decide +kernel
theorem dX4_totalReceived_71 : decode cX4_totalReceived 71 = .ok (.ireturn, 1) := by decide +kernel
theorem dX4_totalReceived_72 : decode cX4_totalReceived 72 = .ok (.aload_n 0, 1) := by decide +kernel
theorem dX4_totalReceived_73 : decode cX4_totalReceived 73 = .ok (.getfield 22, 3) := by decide +kernel
theorem dX4_totalReceived_76 : decode cX4_totalReceived 76 = .ok (.iconst 0, 1) := by decide +kernel
theorem dX4_totalReceived_77 : decode cX4_totalReceived 77 = .ok (.invokevirtual 159, 3) := by decide +kernel
theorem dX4_totalReceived_80 : decode cX4_totalReceived 80 = .ok (.ireturn, 1) := by decide +kernel
theorem dX4_totalReceived_81 : decode cX4_totalReceived 81 = .ok (.aload_n 0, 1) := by decide +kernel
theorem dX4_totalReceived_82 : decode cX4_totalReceived 82 = .ok (.getfield 22, 3) := by decide +kernel
theorem dX4_totalReceived_85 : decode cX4_totalReceived 85 = .ok (.iconst 1, 1) := by decide +kernel
theorem dX4_totalReceived_86 : decode cX4_totalReceived 86 = .ok (.invokevirtual 159, 3) := by decide +kernel
theorem dX4_totalReceived_89 : decode cX4_totalReceived 89 = .ok (.ireturn, 1) := by decide +kernel
theorem dX4_totalReceived_90 : decode cX4_totalReceived 90 = .ok (.aload_n 0, 1) := by decide +kernel
theorem dX4_totalReceived_91 : decode cX4_totalReceived 91 = .ok (.getfield 22, 3) := by decide +kernel
theorem dX4_totalReceived_94 : decode cX4_totalReceived 94 = .ok (.iconst 2, 1) := by decide +kernel
theorem dX4_totalReceived_95 : decode cX4_totalReceived 95 = .ok (.invokevirtual 159, 3) := by decide +kernel
theorem dX4_totalReceived_98 : decode cX4_totalReceived 98 = .ok (.ireturn, 1) := by decide +kernel
theorem dX4_totalReceived_99 : decode cX4_totalReceived 99 = .ok (.aload_n 0, 1) := by decide +kernel
theorem dX4_totalReceived_100 : decode cX4_totalReceived 100 = .ok (.getfield 22, 3) := by decide +kernel
theorem dX4_totalReceived_103 : decode cX4_totalReceived 103 = .ok (.iconst 3, 1) := by decide +kernel
theorem dX4_totalReceived_104 : decode cX4_totalReceived 104 = .ok (.invokevirtual 159, 3) := by decide +kernel
theorem dX4_totalReceived_107 : decode cX4_totalReceived 107 = .ok (.ireturn, 1) := by decide +kernel
theorem dX4_totalReceived_108 : decode cX4_totalReceived 108 = .ok (.aload_n 0, 1) := by decide +kernel
theorem dX4_totalReceived_109 : decode cX4_totalReceived 109 = .ok (.getfield 22, 3) := by decide +kernel
theorem dX4_totalReceived_112 : decode cX4_totalReceived 112 = .ok (.invokevirtual 184, 3) := by decide +kernel
theorem dX4_totalReceived_115 : decode cX4_totalReceived 115 = .ok (.ireturn, 1) := by decide +kernel
theorem dX4_totalReceived_116 : decode cX4_totalReceived 116 = .ok (.aload_n 0, 1) := by decide +kernel
theorem dX4_totalReceived_117 : decode cX4_totalReceived 117 = .ok (.getfield 22, 3) := by decide +kernel
theorem dX4_totalReceived_120 : decode cX4_totalReceived 120 = .ok (.invokevirtual 162, 3) := by decide +kernel
theorem dX4_totalReceived_123 : decode cX4_totalReceived 123 = .ok (.ireturn, 1) := by decide +kernel
theorem dX4_totalReceived_124 : decode cX4_totalReceived 124 = .ok (.aload_n 0, 1) := by decide +kernel
theorem dX4_totalReceived_125 : decode cX4_totalReceived 125 = .ok (.getfield 22, 3) := by decide +kernel
theorem dX4_totalReceived_128 : decode cX4_totalReceived 128 = .ok (.aload_n 0, 1) := by decide +kernel
theorem dX4_totalReceived_129 : decode cX4_totalReceived 129 = .ok (.getfield 12, 3) := by decide +kernel
theorem dX4_totalReceived_132 : decode cX4_totalReceived 132 = .ok (.invokevirtual 165, 3) := by decide +kernel
theorem dX4_totalReceived_135 : decode cX4_totalReceived 135 = .ok (.ifCond .eq 7, 3) := by decide +kernel
theorem dX4_totalReceived_138 : decode cX4_totalReceived 138 = .ok (.iconst 1, 1) := by decide +kernel
theorem dX4_totalReceived_139 : decode cX4_totalReceived 139 = .ok (.goto 4, 3) := by decide +kernel
theorem dX4_totalReceived_142 : decode cX4_totalReceived 142 = .ok (.iconst 0, 1) := by decide +kernel
theorem dX4_totalReceived_143 : decode cX4_totalReceived 143 = .ok (.ireturn, 1) := by decide +kernel
theorem dX5_init_0 : decode cX5_init 0 = .ok (.aload_n 0, 1) := by decide +kernel
theorem dX5_init_1 : decode cX5_init 1 = .ok (.invokespecial 1, 3) := by decide +kernel
theorem dX5_init_4 : decode cX5_init 4 = .ok (.aload_n 0, 1) := by decide +kernel
theorem dX5_init_5 : decode cX5_init 5 = .ok (.sipush 1547, 3) := by decide +kernel
theorem dX5_init_8 : decode cX5_init 8 = .ok (.newarray .int, 2) := by decide +kernel
theorem dX5_init_10 : decode cX5_init 10 = .ok (.putfield 7, 3) := by decide +kernel
theorem dX5_init_13 : decode cX5_init 13 = .ok (.aload_n 0, 1) := by decide +kernel
theorem dX5_init_14 : decode cX5_init 14 = .ok (.sipush 6188, 3) := by decide +kernel
theorem dX5_init_17 : decode cX5_init 17 = .ok (.newarray .int, 2) := by decide +kernel
theorem dX5_init_19 : decode cX5_init 19 = .ok (.putfield 13, 3) := by decide +kernel
theorem dX5_init_22 : decode cX5_init 22 = .ok (.aload_n 0, 1) := by decide +kernel
theorem dX5_init_23 : decode cX5_init 23 = .ok (.sipush 1547, 3) := by decide +kernel
theorem dX5_init_26 : decode cX5_init 26 = .ok (.newarray .int, 2) := by decide +kernel
theorem dX5_init_28 : decode cX5_init 28 = .ok (.putfield 16, 3) := by decide +kernel
theorem dX5_init_31 : decode cX5_init 31 = .ok (.aload_n 0, 1) := by decide +kernel
theorem dX5_init_32 : decode cX5_init 32 = .ok (.sipush 1547, 3) := by decide +kernel
theorem dX5_init_35 : decode cX5_init 35 = .ok (.newarray .int, 2) := by decide +kernel
theorem dX5_init_37 : decode cX5_init 37 = .ok (.putfield 19, 3) := by decide +kernel
theorem dX5_init_40 : decode cX5_init 40 = .ok (.aload_n 0, 1) := by decide +kernel
theorem dX5_init_41 : decode cX5_init 41 = .ok (.bipush 60, 2) := by decide +kernel
theorem dX5_init_43 : decode cX5_init 43 = .ok (.newarray .int, 2) := by decide +kernel
theorem dX5_init_45 : decode cX5_init 45 = .ok (.putfield 22, 3) := by decide +kernel
theorem dX5_init_48 : decode cX5_init 48 = .ok (.aload_n 0, 1) := by decide +kernel
theorem dX5_init_49 : decode cX5_init 49 = .ok (.bipush 30, 2) := by decide +kernel
theorem dX5_init_51 : decode cX5_init 51 = .ok (.newarray .int, 2) := by decide +kernel
theorem dX5_init_53 : decode cX5_init 53 = .ok (.putfield 25, 3) := by decide +kernel
theorem dX5_init_56 : decode cX5_init 56 = .ok (.aload_n 0, 1) := by decide +kernel
theorem dX5_init_57 : decode cX5_init 57 = .ok (.bipush 30, 2) := by decide +kernel
theorem dX5_init_59 : decode cX5_init 59 = .ok (.newarray .int, 2) := by decide +kernel
theorem dX5_init_61 : decode cX5_init 61 = .ok (.putfield 28, 3) := by decide +kernel
theorem dX5_init_64 : decode cX5_init 64 = .ok (.aload_n 0, 1) := by decide +kernel
theorem dX5_init_65 : decode cX5_init 65 = .ok (.bipush 64, 2) := by decide +kernel
theorem dX5_init_67 : decode cX5_init 67 = .ok (.newarray .int, 2) := by decide +kernel
theorem dX5_init_69 : decode cX5_init 69 = .ok (.putfield 31, 3) := by decide +kernel
theorem dX5_init_72 : decode cX5_init 72 = .ok (.aload_n 0, 1) := by decide +kernel
theorem dX5_init_73 : decode cX5_init 73 = .ok (.bipush 64, 2) := by decide +kernel
theorem dX5_init_75 : decode cX5_init 75 = .ok (.newarray .int, 2) := by decide +kernel
theorem dX5_init_77 : decode cX5_init 77 = .ok (.putfield 34, 3) := by decide +kernel
theorem dX5_init_80 : decode cX5_init 80 = .ok (.aload_n 0, 1) := by decide +kernel
theorem dX5_init_81 : decode cX5_init 81 = .ok (.bipush 64, 2) := by decide +kernel
theorem dX5_init_83 : decode cX5_init 83 = .ok (.newarray .int, 2) := by decide +kernel
theorem dX5_init_85 : decode cX5_init 85 = .ok (.putfield 37, 3) := by decide +kernel
theorem dX5_init_88 : decode cX5_init 88 = .ok (.aload_n 0, 1) := by decide +kernel
theorem dX5_init_89 : decode cX5_init 89 = .ok (.bipush 64, 2) := by decide +kernel
theorem dX5_init_91 : decode cX5_init 91 = .ok (.newarray .int, 2) := by decide +kernel
theorem dX5_init_93 : decode cX5_init 93 = .ok (.putfield 40, 3) := by decide +kernel
theorem dX5_init_96 : decode cX5_init 96 = .ok (.aload_n 0, 1) := by decide +kernel
theorem dX5_init_97 : decode cX5_init 97 = .ok (.bipush 64, 2) := by decide +kernel
theorem dX5_init_99 : decode cX5_init 99 = .ok (.newarray .int, 2) := by decide +kernel
theorem dX5_init_101 : decode cX5_init 101 = .ok (.putfield 43, 3) := by decide +kernel
theorem dX5_init_104 : decode cX5_init 104 = .ok (.aload_n 0, 1) := by decide +kernel
theorem dX5_init_105 : decode cX5_init 105 = .ok (.getfield 7, 3) := by decide +kernel
theorem dX5_init_108 : decode cX5_init 108 = .ok (.iconst 0, 1) := by decide +kernel
theorem dX5_init_109 : decode cX5_init 109 = .ok (.sipush 256, 3) := by decide +kernel
theorem dX5_init_112 : decode cX5_init 112 = .ok (.iastore, 1) := by decide +kernel
theorem dX5_init_113 : decode cX5_init 113 = .ok (.aload_n 0, 1) := by decide +kernel
theorem dX5_init_114 : decode cX5_init 114 = .ok (.getfield 7, 3) := by decide +kernel
theorem dX5_init_117 : decode cX5_init 117 = .ok (.iconst 1, 1) := by decide +kernel
theorem dX5_init_118 : decode cX5_init 118 = .ok (.bipush 16, 2) := by decide +kernel
theorem dX5_init_120 : decode cX5_init 120 = .ok (.iastore, 1) := by decide +kernel
theorem dX5_init_121 : decode cX5_init 121 = .ok (.aload_n 0, 1) := by decide +kernel
theorem dX5_init_122 : decode cX5_init 122 = .ok (.getfield 7, 3) := by decide +kernel
theorem dX5_init_125 : decode cX5_init 125 = .ok (.iconst 3, 1) := by decide +kernel
theorem dX5_init_126 : decode cX5_init 126 = .ok (.iconst 1, 1) := by decide +kernel
theorem dX5_init_127 : decode cX5_init 127 = .ok (.iastore, 1) := by decide +kernel
theorem dX5_init_128 : decode cX5_init 128 = .ok (.return_, 1) := by decide +kernel
theorem dX5_within_0 : decode cX5_within 0 = .ok (.iload_n 0, 1) := by decide +kernel
theorem dX5_within_1 : decode cX5_within 1 = .ok (.iload_n 1, 1) := by decide +kernel
theorem dX5_within_2 : decode cX5_within 2 = .ok (.if_icmp .lt 12, 3) := by decide +kernel
theorem dX5_within_5 : decode cX5_within 5 = .ok (.iload_n 0, 1) := by decide +kernel
theorem dX5_within_6 : decode cX5_within 6 = .ok (.iload_n 2, 1) := by decide +kernel
theorem dX5_within_7 : decode cX5_within 7 = .ok (.if_icmp .gt 7, 3) := by decide +kernel
theorem dX5_within_10 : decode cX5_within 10 = .ok (.iconst 1, 1) := by decide +kernel
theorem dX5_within_11 : decode cX5_within 11 = .ok (.goto 4, 3) := by decide +kernel
theorem dX5_within_14 : decode cX5_within 14 = .ok (.iconst 0, 1) := by decide +kernel
theorem dX5_within_15 : decode cX5_within 15 = .ok (.ireturn, 1) := by decide +kernel
theorem dX5_push_0 : decode cX5_push 0 = .ok (.aload_n 0, 1) := by decide +kernel
theorem dX5_push_1 : decode cX5_push 1 = .ok (.getfield 46, 3) := by decide +kernel
theorem dX5_push_4 : decode cX5_push 4 = .ok (.iconst 4, 1) := by decide +kernel
theorem dX5_push_5 : decode cX5_push 5 = .ok (.if_icmp .ne 44, 3) := by decide +kernel
theorem dX5_push_8 : decode cX5_push 8 = .ok (.iconst 0, 1) := by decide +kernel
theorem dX5_push_9 : decode cX5_push 9 = .ok (.istore_n 1, 1) := by decide +kernel
theorem dX5_push_10 : decode cX5_push 10 = .ok (.iload_n 1, 1) := by decide +kernel
theorem dX5_push_11 : decode cX5_push 11 = .ok (.sipush 4641, 3) := by decide +kernel
theorem dX5_push_14 : decode cX5_push 14 = .ok (.if_icmp .ge 25, 3) := by decide +kernel
theorem dX5_push_17 : decode cX5_push 17 = .ok (.aload_n 0, 1) := by decide +kernel
theorem dX5_push_18 : decode cX5_push 18 = .ok (.getfield 13, 3) := by decide +kernel
theorem dX5_push_21 : decode cX5_push 21 = .ok (.iload_n 1, 1) := by decide +kernel
theorem dX5_push_22 : decode cX5_push 22 = .ok (.aload_n 0, 1) := by decide +kernel
theorem dX5_push_23 : decode cX5_push 23 = .ok (.getfield 13, 3) := by decide +kernel
theorem dX5_push_26 : decode cX5_push 26 = .ok (.iload_n 1, 1) := by decide +kernel
theorem dX5_push_27 : decode cX5_push 27 = .ok (.sipush 1547, 3) := by decide +kernel
theorem dX5_push_30 : decode cX5_push 30 = .ok (.iadd, 1) := by decide +kernel
theorem dX5_push_31 : decode cX5_push 31 = .ok (.iaload, 1) := by decide +kernel
theorem dX5_push_32 : decode cX5_push 32 = .ok (.iastore, 1) := by decide +kernel
theorem dX5_push_33 : decode cX5_push 33 = .ok (.iinc 1 1, 3) := by decide +kernel
theorem dX5_push_36 : decode cX5_push 36 = .ok (.goto (-26), 3) := by decide +kernel
theorem dX5_push_39 : decode cX5_push 39 = .ok (.aload_n 0, 1) := by decide +kernel
theorem dX5_push_40 : decode cX5_push 40 = .ok (.dup, 1) := by decide +kernel
theorem dX5_push_41 : decode cX5_push 41 = .ok (.getfield 46, 3) := by decide +kernel
theorem dX5_push_44 : decode cX5_push 44 = .ok (.iconst 1, 1) := by decide +kernel
theorem dX5_push_45 : decode cX5_push 45 = .ok (.isub, 1) := by decide +kernel
theorem dX5_push_46 : decode cX5_push 46 = .ok (.putfield 46, 3) := by decide +kernel
theorem dX5_push_49 : decode cX5_push 49 = .ok (.iconst 0, 1) := by decide +kernel
theorem dX5_push_50 : decode cX5_push 50 = .ok (.istore_n 1, 1) := by decide +kernel
theorem dX5_push_51 : decode cX5_push 51 = .ok (.iload_n 1, 1) := by decide +kernel
theorem dX5_push_52 : decode cX5_push 52 = .ok (.sipush 1547, 3) := by decide +kernel
theorem dX5_push_55 : decode cX5_push 55 = .ok (.if_icmp .ge 30, 3) := by decide +kernel
theorem dX5_push_58 : decode cX5_push 58 = .ok (.aload_n 0, 1) := by decide +kernel
theorem dX5_push_59 : decode cX5_push 59 = .ok (.getfield 13, 3) := by decide +kernel
theorem dX5_push_62 : decode cX5_push 62 = .ok (.aload_n 0, 1) := by decide +kernel
theorem dX5_push_63 : decode cX5_push 63 = .ok (.getfield 46, 3) := by decide +kernel
theorem dX5_push_66 : decode cX5_push 66 = .ok (.sipush 1547, 3) := by decide +kernel
theorem dX5_push_69 : decode cX5_push 69 = .ok (.imul, 1) := by decide +kernel
theorem dX5_push_70 : decode cX5_push 70 = .ok (.iload_n 1, 1) := by decide +kernel
theorem dX5_push_71 : decode cX5_push 71 = .ok (.iadd, 1) := by decide +kernel
theorem dX5_push_72 : decode cX5_push 72 = .ok (.aload_n 0, 1) := by decide +kernel
theorem dX5_push_73 : decode cX5_push 73 = .ok (.getfield 19, 3) := by decide +kernel
theorem dX5_push_76 : decode cX5_push 76 = .ok (.iload_n 1, 1) := by decide +kernel
theorem dX5_push_77 : decode cX5_push 77 = .ok (.iaload, 1) := by decide +kernel
theorem dX5_push_78 : decode cX5_push 78 = .ok (.iastore, 1) := by decide +kernel
theorem dX5_push_79 : decode cX5_push 79 = .ok (.iinc 1 1, 3) := by decide +kernel
theorem dX5_push_82 : decode cX5_push 82 = .ok (.goto (-31), 3) := by decide +kernel
theorem dX5_push_85 : decode cX5_push 85 = .ok (.aload_n 0, 1) := by decide +kernel
theorem dX5_push_86 : decode cX5_push 86 = .ok (.dup, 1) := by decide +kernel
theorem dX5_push_87 : decode cX5_push 87 = .ok (.getfield 46, 3) := by decide +kernel
theorem dX5_push_90 : decode cX5_push 90 = .ok (.iconst 1, 1) := by decide +kernel
theorem dX5_push_91 : decode cX5_push 91 = .ok (.iadd, 1) := by decide +kernel
theorem dX5_push_92 : decode cX5_push 92 = .ok (.putfield 46, 3) := by decide +kernel
theorem dX5_push_95 : decode cX5_push 95 = .ok (.return_, 1) := by decide +kernel
theorem dX5_putAside_0 : decode cX5_putAside 0 = .ok (.iconst 0, 1) := by decide +kernel
theorem dX5_putAside_1 : decode cX5_putAside 1 = .ok (.istore_n 1, 1) := by decide +kernel
theorem dX5_putAside_2 : decode cX5_putAside 2 = .ok (.iload_n 1, 1) := by decide +kernel
theorem dX5_putAside_3 : decode cX5_putAside 3 = .ok (.sipush 1547, 3) := by decide +kernel
theorem dX5_putAside_6 : decode cX5_putAside 6 = .ok (.if_icmp .ge 21, 3) := by decide +kernel
theorem dX5_putAside_9 : decode cX5_putAside 9 = .ok (.aload_n 0, 1) := by decide +kernel
theorem dX5_putAside_10 : decode cX5_putAside 10 = .ok (.getfield 19, 3) := by decide +kernel
theorem dX5_putAside_13 : decode cX5_putAside 13 = .ok (.iload_n 1, 1) := by decide +kernel
theorem dX5_putAside_14 : decode cX5_putAside 14 = .ok (.aload_n 0, 1) := by decide +kernel
theorem dX5_putAside_15 : decode cX5_putAside 15 = .ok (.getfield 7, 3) := by decide +kernel
theorem dX5_putAside_18 : decode cX5_putAside 18 = .ok (.iload_n 1, 1) := by decide +kernel
theorem dX5_putAside_19 : decode cX5_putAside 19 = .ok (.iaload, 1) := by decide +kernel
theorem dX5_putAside_20 : decode cX5_putAside 20 = .ok (.iastore, 1) := by decide +kernel
theorem dX5_putAside_21 : decode cX5_putAside 21 = .ok (.iinc 1 1, 3) := by decide +kernel
theorem dX5_putAside_24 : decode cX5_putAside 24 = .ok (.goto (-22), 3) := by decide +kernel
theorem dX5_putAside_27 : decode cX5_putAside 27 = .ok (.return_, 1) := by decide +kernel
theorem dX5_takeBack_0 : decode cX5_takeBack 0 = .ok (.iconst 0, 1) := by decide +kernel
theorem dX5_takeBack_1 : decode cX5_takeBack 1 = .ok (.istore_n 1, 1) := by decide +kernel
theorem dX5_takeBack_2 : decode cX5_takeBack 2 = .ok (.iload_n 1, 1) := by decide +kernel
theorem dX5_takeBack_3 : decode cX5_takeBack 3 = .ok (.sipush 1547, 3) := by decide +kernel
theorem dX5_takeBack_6 : decode cX5_takeBack 6 = .ok (.if_icmp .ge 21, 3) := by decide +kernel
theorem dX5_takeBack_9 : decode cX5_takeBack 9 = .ok (.aload_n 0, 1) := by decide +kernel
theorem dX5_takeBack_10 : decode cX5_takeBack 10 = .ok (.getfield 7, 3) := by decide +kernel
theorem dX5_takeBack_13 : decode cX5_takeBack 13 = .ok (.iload_n 1, 1) := by decide +kernel
theorem dX5_takeBack_14 : decode cX5_takeBack 14 = .ok (.aload_n 0, 1) := by decide +kernel
theorem dX5_takeBack_15 : decode cX5_takeBack 15 = .ok (.getfield 19, 3) := by decide +kernel
theorem dX5_takeBack_18 : decode cX5_takeBack 18 = .ok (.iload_n 1, 1) := by decide +kernel
theorem dX5_takeBack_19 : decode cX5_takeBack 19 = .ok (.iaload, 1) := by decide +kernel
theorem dX5_takeBack_20 : decode cX5_takeBack 20 = .ok (.iastore, 1) := by decide +kernel
theorem dX5_takeBack_21 : decode cX5_takeBack 21 = .ok (.iinc 1 1, 3) := by decide +kernel
theorem dX5_takeBack_24 : decode cX5_takeBack 24 = .ok (.goto (-22), 3) := by decide +kernel
theorem dX5_takeBack_27 : decode cX5_takeBack 27 = .ok (.return_, 1) := by decide +kernel
set_option maxRecDepth 20000 in
theorem ggX5_record_X5_putAside : GoodIn wsX5_record wsX5_putAside := goodIn_r _ [5, 6, 7, 14, 15, 16, 17, 18, 19, 20, 21, 22, 23, 24, 25, 26, 27, 28, 29, 30, 31, 32, 33] (by decide +kernel) (by decide +kernel)
set_option maxRecDepth 20000 in
theorem gX5_record_X5_putAside : GoodIn wsX5_record (wsV RX5 50 RX5 yX5_putAside wsX5_putAside) := goodIn_app (goodIn_of _ (by decide +kernel)) ggX5_record_X5_putAside
set_option maxRecDepth 20000 in
theorem ggX5_record_X5_push : GoodIn wsX5_record wsX5_push := goodIn_r _ [11, 12, 13, 6, 14, 15, 16, 17, 18, 19, 20, 21, 22, 23, 24, 25, 26, 27, 28, 29, 30, 31, 32, 33] (by decide +kernel) (by decide +kernel)
set_option maxRecDepth 20000 in
theorem gX5_record_X5_push : GoodIn wsX5_record (wsV RX5 53 RX5 yX5_push wsX5_push) := goodIn_app (goodIn_of _ (by decide +kernel)) ggX5_record_X5_push
theorem dX5_record_0 : decode cX5_record 0 = .ok (.aload_n 0, 1) := by decide +kernel
theorem dX5_record_1 : decode cX5_record 1 = .ok (.invokevirtual 50, 3) := by decide +kernel
theorem dX5_record_4 : decode cX5_record 4 = .ok (.aload_n 0, 1) := by decide +kernel
theorem dX5_record_5 : decode cX5_record 5 = .ok (.invokevirtual 53, 3) := by decide +kernel
theorem dX5_record_8 : decode cX5_record 8 = .ok (.return_, 1) := by decide +kernel
theorem dX5_undo_0 : decode cX5_undo 0 = .ok (.aload_n 0, 1) := by decide +kernel
theorem dX5_undo_1 : decode cX5_undo 1 = .ok (.getfield 46, 3) := by decide +kernel
theorem dX5_undo_4 : decode cX5_undo 4 = .ok (.ifCond .ne 6, 3) := by decide +kernel
theorem dX5_undo_7 : decode cX5_undo 7 = .ok (.bipush (-5), 2) := by decide +kernel
theorem dX5_undo_9 : decode cX5_undo 9 = .ok (.ireturn, 1) := by decide +kernel
theorem dX5_undo_10 : decode cX5_undo 10 = .ok (.aload_n 0, 1) := by decide +kernel
theorem dX5_undo_11 : decode cX5_undo 11 = .ok (.dup, 1) := by decide +kernel
theorem dX5_undo_12 : decode cX5_undo 12 = .ok (.getfield 46, 3) := by decide +kernel
theorem dX5_undo_15 : decode cX5_undo 15 = .ok (.iconst 1, 1) := by decide +kernel
theorem dX5_undo_16 : decode cX5_undo 16 = .ok (.isub, 1) := by decide +kernel
theorem dX5_undo_17 : decode cX5_undo 17 = .ok (.putfield 46, 3) := by decide +kernel
theorem dX5_undo_20 : decode cX5_undo 20 = .ok (.iconst 0, 1) := by decide +kernel
theorem dX5_undo_21 : decode cX5_undo 21 = .ok (.istore_n 1, 1) := by decide +kernel
theorem dX5_undo_22 : decode cX5_undo 22 = .ok (.iload_n 1, 1) := by decide +kernel
theorem dX5_undo_23 : decode cX5_undo 23 = .ok (.sipush 1547, 3) := by decide +kernel
theorem dX5_undo_26 : decode cX5_undo 26 = .ok (.if_icmp .ge 30, 3) := by decide +kernel
theorem dX5_undo_29 : decode cX5_undo 29 = .ok (.aload_n 0, 1) := by decide +kernel
theorem dX5_undo_30 : decode cX5_undo 30 = .ok (.getfield 7, 3) := by decide +kernel
theorem dX5_undo_33 : decode cX5_undo 33 = .ok (.iload_n 1, 1) := by decide +kernel
theorem dX5_undo_34 : decode cX5_undo 34 = .ok (.aload_n 0, 1) := by decide +kernel
theorem dX5_undo_35 : decode cX5_undo 35 = .ok (.getfield 13, 3) := by decide +kernel
theorem dX5_undo_38 : decode cX5_undo 38 = .ok (.aload_n 0, 1) := by decide +kernel
theorem dX5_undo_39 : decode cX5_undo 39 = .ok (.getfield 46, 3) := by decide +kernel
theorem dX5_undo_42 : decode cX5_undo 42 = .ok (.sipush 1547, 3) := by decide +kernel
theorem dX5_undo_45 : decode cX5_undo 45 = .ok (.imul, 1) := by decide +kernel
theorem dX5_undo_46 : decode cX5_undo 46 = .ok (.iload_n 1, 1) := by decide +kernel
theorem dX5_undo_47 : decode cX5_undo 47 = .ok (.iadd, 1) := by decide +kernel
theorem dX5_undo_48 : decode cX5_undo 48 = .ok (.iaload, 1) := by decide +kernel
theorem dX5_undo_49 : decode cX5_undo 49 = .ok (.iastore, 1) := by decide +kernel
theorem dX5_undo_50 : decode cX5_undo 50 = .ok (.iinc 1 1, 3) := by decide +kernel
theorem dX5_undo_53 : decode cX5_undo 53 = .ok (.goto (-31), 3) := by decide +kernel
theorem dX5_undo_56 : decode cX5_undo 56 = .ok (.aload_n 0, 1) := by decide +kernel
theorem dX5_undo_57 : decode cX5_undo 57 = .ok (.getfield 46, 3) := by decide +kernel
theorem dX5_undo_60 : decode cX5_undo 60 = .ok (.ireturn, 1) := by decide +kernel
theorem dX5_keep_0 : decode cX5_keep 0 = .ok (.iconst 0, 1) := by decide +kernel
theorem dX5_keep_1 : decode cX5_keep 1 = .ok (.istore_n 1, 1) := by decide +kernel
theorem dX5_keep_2 : decode cX5_keep 2 = .ok (.iload_n 1, 1) := by decide +kernel
theorem dX5_keep_3 : decode cX5_keep 3 = .ok (.sipush 1547, 3) := by decide +kernel
theorem dX5_keep_6 : decode cX5_keep 6 = .ok (.if_icmp .ge 21, 3) := by decide +kernel
theorem dX5_keep_9 : decode cX5_keep 9 = .ok (.aload_n 0, 1) := by decide +kernel
theorem dX5_keep_10 : decode cX5_keep 10 = .ok (.getfield 16, 3) := by decide +kernel
theorem dX5_keep_13 : decode cX5_keep 13 = .ok (.iload_n 1, 1) := by decide +kernel
theorem dX5_keep_14 : decode cX5_keep 14 = .ok (.aload_n 0, 1) := by decide +kernel
theorem dX5_keep_15 : decode cX5_keep 15 = .ok (.getfield 7, 3) := by decide +kernel
theorem dX5_keep_18 : decode cX5_keep 18 = .ok (.iload_n 1, 1) := by decide +kernel
theorem dX5_keep_19 : decode cX5_keep 19 = .ok (.iaload, 1) := by decide +kernel
theorem dX5_keep_20 : decode cX5_keep 20 = .ok (.iastore, 1) := by decide +kernel
theorem dX5_keep_21 : decode cX5_keep 21 = .ok (.iinc 1 1, 3) := by decide +kernel
theorem dX5_keep_24 : decode cX5_keep 24 = .ok (.goto (-22), 3) := by decide +kernel
theorem dX5_keep_27 : decode cX5_keep 27 = .ok (.aload_n 0, 1) := by decide +kernel
theorem dX5_keep_28 : decode cX5_keep 28 = .ok (.iconst 1, 1) := by decide +kernel
theorem dX5_keep_29 : decode cX5_keep 29 = .ok (.putfield 56, 3) := by decide +kernel
theorem dX5_keep_32 : decode cX5_keep 32 = .ok (.aload_n 0, 1) := by decide +kernel
theorem dX5_keep_33 : decode cX5_keep 33 = .ok (.getfield 7, 3) := by decide +kernel
theorem dX5_keep_36 : decode cX5_keep 36 = .ok (.iconst 5, 1) := by decide +kernel
theorem dX5_keep_37 : decode cX5_keep 37 = .ok (.iaload, 1) := by decide +kernel
theorem dX5_keep_38 : decode cX5_keep 38 = .ok (.ireturn, 1) := by decide +kernel
set_option maxRecDepth 20000 in
theorem ggX5_restore_X5_record : GoodIn wsX5_restore wsX5_record := goodIn_r _ [8, 9, 10, 11, 7, 12, 13, 2, 14, 15, 16, 17, 18, 19, 20, 21, 22, 23, 24, 25, 26, 27, 28, 29, 30, 31, 32, 33, 34, 35, 36, 37, 38, 39] (by decide +kernel) (by decide +kernel)
set_option maxRecDepth 20000 in
theorem gX5_restore_X5_record : GoodIn wsX5_restore (wsV RX5 60 RX5 yX5_record wsX5_record) := goodIn_app (goodIn_of _ (by decide +kernel)) ggX5_restore_X5_record
theorem dX5_restore_0 : decode cX5_restore 0 = .ok (.aload_n 0, 1) := by decide +kernel
theorem dX5_restore_1 : decode cX5_restore 1 = .ok (.getfield 56, 3) := by decide +kernel
theorem dX5_restore_4 : decode cX5_restore 4 = .ok (.ifCond .ne 6, 3) := by decide +kernel
theorem dX5_restore_7 : decode cX5_restore 7 = .ok (.bipush (-5), 2) := by decide +kernel
theorem dX5_restore_9 : decode cX5_restore 9 = .ok (.ireturn, 1) := by decide +kernel
theorem dX5_restore_10 : decode cX5_restore 10 = .ok (.aload_n 0, 1) := by decide +kernel
theorem dX5_restore_11 : decode cX5_restore 11 = .ok (.invokevirtual 60, 3) := by decide +kernel
theorem dX5_restore_14 : decode cX5_restore 14 = .ok (.iconst 0, 1) := by decide +kernel
theorem dX5_restore_15 : decode cX5_restore 15 = .ok (.istore_n 1, 1) := by decide +kernel
theorem dX5_restore_16 : decode cX5_restore 16 = .ok (.iload_n 1, 1) := by decide +kernel
theorem dX5_restore_17 : decode cX5_restore 17 = .ok (.sipush 1547, 3) := by decide +kernel
theorem dX5_restore_20 : decode cX5_restore 20 = .ok (.if_icmp .ge 21, 3) := by decide +kernel
theorem dX5_restore_23 : decode cX5_restore 23 = .ok (.aload_n 0, 1) := by decide +kernel
theorem dX5_restore_24 : decode cX5_restore 24 = .ok (.getfield 7, 3) := by decide +kernel
theorem dX5_restore_27 : decode cX5_restore 27 = .ok (.iload_n 1, 1) := by decide +kernel
theorem dX5_restore_28 : decode cX5_restore 28 = .ok (.aload_n 0, 1) := by decide +kernel
theorem dX5_restore_29 : decode cX5_restore 29 = .ok (.getfield 16, 3) := by decide +kernel
theorem dX5_restore_32 : decode cX5_restore 32 = .ok (.iload_n 1, 1) := by decide +kernel
theorem dX5_restore_33 : decode cX5_restore 33 = .ok (.iaload, 1) := by decide +kernel
theorem dX5_restore_34 : decode cX5_restore 34 = .ok (.iastore, 1) := by decide +kernel
theorem dX5_restore_35 : decode cX5_restore 35 = .ok (.iinc 1 1, 3) := by decide +kernel
theorem dX5_restore_38 : decode cX5_restore 38 = .ok (.goto (-22), 3) := by decide +kernel
theorem dX5_restore_41 : decode cX5_restore 41 = .ok (.aload_n 0, 1) := by decide +kernel
theorem dX5_restore_42 : decode cX5_restore 42 = .ok (.getfield 7, 3) := by decide +kernel
theorem dX5_restore_45 : decode cX5_restore 45 = .ok (.iconst 5, 1) := by decide +kernel
theorem dX5_restore_46 : decode cX5_restore 46 = .ok (.iaload, 1) := by decide +kernel
theorem dX5_restore_47 : decode cX5_restore 47 = .ok (.ireturn, 1) := by decide +kernel
theorem dX5_ones_0 : decode cX5_ones 0 = .ok (.iconst 0, 1) := by decide +kernel
theorem dX5_ones_1 : decode cX5_ones 1 = .ok (.istore_n 1, 1) := by decide +kernel
theorem dX5_ones_2 : decode cX5_ones 2 = .ok (.iconst 0, 1) := by decide +kernel
theorem dX5_ones_3 : decode cX5_ones 3 = .ok (.istore_n 2, 1) := by decide +kernel
theorem dX5_ones_4 : decode cX5_ones 4 = .ok (.iload_n 2, 1) := by decide +kernel
theorem dX5_ones_5 : decode cX5_ones 5 = .ok (.bipush 8, 2) := by decide +kernel
theorem dX5_ones_7 : decode cX5_ones 7 = .ok (.if_icmp .ge 17, 3) := by decide +kernel
theorem dX5_ones_10 : decode cX5_ones 10 = .ok (.iload_n 1, 1) := by decide +kernel
theorem dX5_ones_11 : decode cX5_ones 11 = .ok (.iload_n 0, 1) := by decide +kernel
theorem dX5_ones_12 : decode cX5_ones 12 = .ok (.iload_n 2, 1) := by decide +kernel
theorem dX5_ones_13 : decode cX5_ones 13 = .ok (.ishr, 1) := by decide +kernel
theorem dX5_ones_14 : decode cX5_ones 14 = .ok (.iconst 1, 1) := by decide +kernel
theorem dX5_ones_15 : decode cX5_ones 15 = .ok (.iand, 1) := by decide +kernel
theorem dX5_ones_16 : decode cX5_ones 16 = .ok (.iadd, 1) := by decide +kernel
theorem dX5_ones_17 : decode cX5_ones 17 = .ok (.istore_n 1, 1) := by decide +kernel
theorem dX5_ones_18 : decode cX5_ones 18 = .ok (.iinc 2 1, 3) := by decide +kernel
theorem dX5_ones_21 : decode cX5_ones 21 = .ok (.goto (-17), 3) := by decide +kernel
theorem dX5_ones_24 : decode cX5_ones 24 = .ok (.iload_n 1, 1) := by decide +kernel
theorem dX5_ones_25 : decode cX5_ones 25 = .ok (.ireturn, 1) := by decide +kernel
set_option maxRecDepth 20000 in
theorem ggX5_parityOf_X5_ones : GoodIn wsX5_parityOf wsX5_ones := goodIn_r _ [5] (by decide +kernel) (by decide +kernel)
set_option maxRecDepth 20000 in
theorem gX5_parityOf_X5_ones : GoodIn wsX5_parityOf (va_wsS RX5 63 yX5_ones wsX5_ones) := goodIn_app (goodIn_of _ (by decide +kernel)) ggX5_parityOf_X5_ones
theorem dX5_parityOf_0 : decode cX5_parityOf 0 = .ok (.iload_n 1, 1) := by decide +kernel
theorem dX5_parityOf_1 : decode cX5_parityOf 1 = .ok (.invokestatic 63, 3) := by decide +kernel
theorem dX5_parityOf_4 : decode cX5_parityOf 4 = .ok (.iconst 2, 1) := by decide +kernel
theorem dX5_parityOf_5 : decode cX5_parityOf 5 = .ok (.irem, 1) := by decide +kernel
theorem dX5_parityOf_6 : decode cX5_parityOf 6 = .ok (.istore_n 2, 1) := by decide +kernel
theorem dX5_parityOf_7 : decode cX5_parityOf 7 = .ok (.aload_n 0, 1) := by decide +kernel
theorem dX5_parityOf_8 : decode cX5_parityOf 8 = .ok (.getfield 7, 3) := by decide +kernel
theorem dX5_parityOf_11 : decode cX5_parityOf 11 = .ok (.iconst 2, 1) := by decide +kernel
theorem dX5_parityOf_12 : decode cX5_parityOf 12 = .ok (.iaload, 1) := by decide +kernel
theorem dX5_parityOf_13 : decode cX5_parityOf 13 = .ok (.iconst 1, 1) := by decide +kernel
theorem dX5_parityOf_14 : decode cX5_parityOf 14 = .ok (.if_icmp .ne 7, 3) := by decide +kernel
theorem dX5_parityOf_17 : decode cX5_parityOf 17 = .ok (.iload_n 2, 1) := by decide +kernel
theorem dX5_parityOf_18 : decode cX5_parityOf 18 = .ok (.goto 6, 3) := by decide +kernel
theorem dX5_parityOf_21 : decode cX5_parityOf 21 = .ok (.iconst 1, 1) := by decide +kernel
theorem dX5_parityOf_22 : decode cX5_parityOf 22 = .ok (.iload_n 2, 1) := by decide +kernel
theorem dX5_parityOf_23 : decode cX5_parityOf 23 = .ok (.isub, 1) := by decide +kernel
theorem dX5_parityOf_24 : decode cX5_parityOf 24 = .ok (.ireturn, 1) := by decide +kernel
set_option maxRecDepth 20000 in
theorem ggX5_bitsOf_X5_parityOf : GoodIn wsX5_bitsOf wsX5_parityOf := goodIn_r _ [6, 1, 7, 8, 5, 9, 10, 11, 12, 13, 14, 15, 16, 17, 18, 19, 20, 21, 22, 23, 24, 25, 26, 27, 28, 29] (by decide +kernel) (by decide +kernel)
set_option maxRecDepth 20000 in
theorem gX5_bitsOf_X5_parityOf : GoodIn wsX5_bitsOf (wsV RX5 67 RX5 yX5_parityOf wsX5_parityOf) := goodIn_app (goodIn_of _ (by decide +kernel)) ggX5_bitsOf_X5_parityOf
theorem dX5_bitsOf_0 : decode cX5_bitsOf 0 = .ok (.iload_n 1, 1) := by decide +kernel
theorem dX5_bitsOf_1 : decode cX5_bitsOf 1 = .ok (.iconst 1, 1) := by decide +kernel
theorem dX5_bitsOf_2 : decode cX5_bitsOf 2 = .ok (.ishl, 1) := by decide +kernel
theorem dX5_bitsOf_3 : decode cX5_bitsOf 3 = .ok (.istore_n 2, 1) := by decide +kernel
theorem dX5_bitsOf_4 : decode cX5_bitsOf 4 = .ok (.bipush 9, 2) := by decide +kernel
theorem dX5_bitsOf_6 : decode cX5_bitsOf 6 = .ok (.istore_n 3, 1) := by decide +kernel
theorem dX5_bitsOf_7 : decode cX5_bitsOf 7 = .ok (.aload_n 0, 1) := by decide +kernel
theorem dX5_bitsOf_8 : decode cX5_bitsOf 8 = .ok (.getfield 7, 3) := by decide +kernel
theorem dX5_bitsOf_11 : decode cX5_bitsOf 11 = .ok (.iconst 2, 1) := by decide +kernel
theorem dX5_bitsOf_12 : decode cX5_bitsOf 12 = .ok (.iaload, 1) := by decide +kernel
theorem dX5_bitsOf_13 : decode cX5_bitsOf 13 = .ok (.ifCond .le 17, 3) := by decide +kernel
theorem dX5_bitsOf_16 : decode cX5_bitsOf 16 = .ok (.iload_n 2, 1) := by decide +kernel
theorem dX5_bitsOf_17 : decode cX5_bitsOf 17 = .ok (.aload_n 0, 1) := by decide +kernel
theorem dX5_bitsOf_18 : decode cX5_bitsOf 18 = .ok (.iload_n 1, 1) := by decide +kernel
theorem dX5_bitsOf_19 : decode cX5_bitsOf 19 = .ok (.invokevirtual 67, 3) := by decide +kernel
theorem dX5_bitsOf_22 : decode cX5_bitsOf 22 = .ok (.bipush 9, 2) := by decide +kernel
theorem dX5_bitsOf_24 : decode cX5_bitsOf 24 = .ok (.ishl, 1) := by decide +kernel
theorem dX5_bitsOf_25 : decode cX5_bitsOf 25 = .ok (.ior, 1) := by decide +kernel
theorem dX5_bitsOf_26 : decode cX5_bitsOf 26 = .ok (.istore_n 2, 1) := by decide +kernel
theorem dX5_bitsOf_27 : decode cX5_bitsOf 27 = .ok (.bipush 10, 2) := by decide +kernel
theorem dX5_bitsOf_29 : decode cX5_bitsOf 29 = .ok (.istore_n 3, 1) := by decide +kernel
theorem dX5_bitsOf_30 : decode cX5_bitsOf 30 = .ok (.iload_n 2, 1) := by decide +kernel
theorem dX5_bitsOf_31 : decode cX5_bitsOf 31 = .ok (.iconst 3, 1) := by decide +kernel
theorem dX5_bitsOf_32 : decode cX5_bitsOf 32 = .ok (.iload_n 3, 1) := by decide +kernel
theorem dX5_bitsOf_33 : decode cX5_bitsOf 33 = .ok (.ishl, 1) := by decide +kernel
theorem dX5_bitsOf_34 : decode cX5_bitsOf 34 = .ok (.ior, 1) := by decide +kernel
theorem dX5_bitsOf_35 : decode cX5_bitsOf 35 = .ok (.ireturn, 1) := by decide +kernel
theorem dX5_bitMany_0 : decode cX5_bitMany 0 = .ok (.bipush 9, 2) := by decide +kernel
theorem dX5_bitMany_2 : decode cX5_bitMany 2 = .ok (.aload_n 0, 1) := by decide +kernel
theorem dX5_bitMany_3 : decode cX5_bitMany 3 = .ok (.getfield 7, 3) := by decide +kernel
theorem dX5_bitMany_6 : decode cX5_bitMany 6 = .ok (.iconst 2, 1) := by decide +kernel
theorem dX5_bitMany_7 : decode cX5_bitMany 7 = .ok (.iaload, 1) := by decide +kernel
theorem dX5_bitMany_8 : decode cX5_bitMany 8 = .ok (.ifCond .le 7, 3) := by decide +kernel
theorem dX5_bitMany_11 : decode cX5_bitMany 11 = .ok (.iconst 1, 1) := by decide +kernel
theorem dX5_bitMany_12 : decode cX5_bitMany 12 = .ok (.goto 4, 3) := by decide +kernel
theorem dX5_bitMany_15 : decode cX5_bitMany 15 = .ok (.iconst 0, 1) := by decide +kernel
theorem dX5_bitMany_16 : decode cX5_bitMany 16 = .ok (.iadd, 1) := by decide +kernel
theorem dX5_bitMany_17 : decode cX5_bitMany 17 = .ok (.aload_n 0, 1) := by decide +kernel
theorem dX5_bitMany_18 : decode cX5_bitMany 18 = .ok (.getfield 7, 3) := by decide +kernel
theorem dX5_bitMany_21 : decode cX5_bitMany 21 = .ok (.iconst 3, 1) := by decide +kernel
theorem dX5_bitMany_22 : decode cX5_bitMany 22 = .ok (.iaload, 1) := by decide +kernel
theorem dX5_bitMany_23 : decode cX5_bitMany 23 = .ok (.iadd, 1) := by decide +kernel
theorem dX5_bitMany_24 : decode cX5_bitMany 24 = .ok (.ireturn, 1) := by decide +kernel
theorem dX5_lengthOf_0 : decode cX5_lengthOf 0 = .ok (.iload_n 1, 1) := by decide +kernel
theorem dX5_lengthOf_1 : decode cX5_lengthOf 1 = .ok (.aload_n 0, 1) := by decide +kernel
theorem dX5_lengthOf_2 : decode cX5_lengthOf 2 = .ok (.getfield 7, 3) := by decide +kernel
theorem dX5_lengthOf_5 : decode cX5_lengthOf 5 = .ok (.iconst 0, 1) := by decide +kernel
theorem dX5_lengthOf_6 : decode cX5_lengthOf 6 = .ok (.iaload, 1) := by decide +kernel
theorem dX5_lengthOf_7 : decode cX5_lengthOf 7 = .ok (.imul, 1) := by decide +kernel
theorem dX5_lengthOf_8 : decode cX5_lengthOf 8 = .ok (.bipush 16, 2) := by decide +kernel
theorem dX5_lengthOf_10 : decode cX5_lengthOf 10 = .ok (.idiv, 1) := by decide +kernel
theorem dX5_lengthOf_11 : decode cX5_lengthOf 11 = .ok (.ireturn, 1) := by decide +kernel
set_option maxRecDepth 20000 in
theorem ggX5_putWord_X5_bitMany : GoodIn wsX5_putWord wsX5_bitMany := goodIn_r _ [6, 1, 22, 23, 24, 25, 26, 27, 28, 29, 30, 31, 32, 33, 34, 35, 36, 37, 38, 39, 40, 41] (by decide +kernel) (by decide +kernel)
set_option maxRecDepth 20000 in
theorem gX5_putWord_X5_bitMany : GoodIn wsX5_putWord (wsV RX5 70 RX5 yX5_bitMany wsX5_bitMany) := goodIn_app (goodIn_of _ (by decide +kernel)) ggX5_putWord_X5_bitMany
set_option maxRecDepth 20000 in
theorem ggX5_putWord_X5_lengthOf : GoodIn wsX5_putWord wsX5_lengthOf := goodIn_r _ [10, 1, 22, 23, 24, 25, 26, 27, 28, 29, 30, 31, 32, 33, 34, 35, 36, 37, 38, 39, 40, 41] (by decide +kernel) (by decide +kernel)
set_option maxRecDepth 20000 in
theorem gX5_putWord_X5_lengthOf : GoodIn wsX5_putWord (wsV RX5 74 RX5 yX5_lengthOf wsX5_lengthOf) := goodIn_app (goodIn_of _ (by decide +kernel)) ggX5_putWord_X5_lengthOf
set_option maxRecDepth 20000 in
theorem ggX5_putWord_X5_bitsOf : GoodIn wsX5_putWord wsX5_bitsOf := goodIn_r _ [14, 1, 15, 16, 17, 5, 18, 19, 20, 21, 22, 23, 24, 25, 26, 27, 28, 29, 30, 31, 32, 33, 34, 35, 36, 37, 38, 39, 40, 41] (by decide +kernel) (by decide +kernel)
set_option maxRecDepth 20000 in
theorem gX5_putWord_X5_bitsOf : GoodIn wsX5_putWord (wsV RX5 77 RX5 yX5_bitsOf wsX5_bitsOf) := goodIn_app (goodIn_of _ (by decide +kernel)) ggX5_putWord_X5_bitsOf
theorem dX5_putWord_0 : decode cX5_putWord 0 = .ok (.aload_n 0, 1) := by decide +kernel
theorem dX5_putWord_1 : decode cX5_putWord 1 = .ok (.getfield 7, 3) := by decide +kernel
theorem dX5_putWord_4 : decode cX5_putWord 4 = .ok (.iconst 5, 1) := by decide +kernel
theorem dX5_putWord_5 : decode cX5_putWord 5 = .ok (.iaload, 1) := by decide +kernel
theorem dX5_putWord_6 : decode cX5_putWord 6 = .ok (.istore_n 2, 1) := by decide +kernel
theorem dX5_putWord_7 : decode cX5_putWord 7 = .ok (.aload_n 0, 1) := by decide +kernel
theorem dX5_putWord_8 : decode cX5_putWord 8 = .ok (.invokevirtual 70, 3) := by decide +kernel
theorem dX5_putWord_11 : decode cX5_putWord 11 = .ok (.istore_n 3, 1) := by decide +kernel
theorem dX5_putWord_12 : decode cX5_putWord 12 = .ok (.iload_n 2, 1) := by decide +kernel
theorem dX5_putWord_13 : decode cX5_putWord 13 = .ok (.aload_n 0, 1) := by decide +kernel
theorem dX5_putWord_14 : decode cX5_putWord 14 = .ok (.iload_n 3, 1) := by decide +kernel
theorem dX5_putWord_15 : decode cX5_putWord 15 = .ok (.invokevirtual 74, 3) := by decide +kernel
theorem dX5_putWord_18 : decode cX5_putWord 18 = .ok (.iadd, 1) := by decide +kernel
theorem dX5_putWord_19 : decode cX5_putWord 19 = .ok (.sipush 1500, 3) := by decide +kernel
theorem dX5_putWord_22 : decode cX5_putWord 22 = .ok (.if_icmp .le 5, 3) := by decide +kernel
theorem dX5_putWord_25 : decode cX5_putWord 25 = .ok (.iconst 0, 1) := by decide +kernel
theorem dX5_putWord_26 : decode cX5_putWord 26 = .ok (.ireturn, 1) := by decide +kernel
theorem dX5_putWord_27 : decode cX5_putWord 27 = .ok (.aload_n 0, 1) := by decide +kernel
theorem dX5_putWord_28 : decode cX5_putWord 28 = .ok (.iload_n 1, 1) := by decide +kernel
theorem dX5_putWord_29 : decode cX5_putWord 29 = .ok (.invokevirtual 77, 3) := by decide +kernel
theorem dX5_putWord_32 : decode cX5_putWord 32 = .ok (.istore 4, 2) := by decide +kernel
theorem dX5_putWord_34 : decode cX5_putWord 34 = .ok (.iconst 0, 1) := by decide +kernel
theorem dX5_putWord_35 : decode cX5_putWord 35 = .ok (.istore 5, 2) := by decide +kernel
theorem dX5_putWord_37 : decode cX5_putWord 37 = .ok (.iload 5, 2) := by decide +kernel
theorem dX5_putWord_39 : decode cX5_putWord 39 = .ok (.iload_n 3, 1) := by decide +kernel
theorem dX5_putWord_40 : decode cX5_putWord 40 = .ok (.if_icmp .ge 57, 3) := by decide +kernel
theorem dX5_putWord_43 : decode cX5_putWord 43 = .ok (.iload_n 2, 1) := by decide +kernel
theorem dX5_putWord_44 : decode cX5_putWord 44 = .ok (.aload_n 0, 1) := by decide +kernel
theorem dX5_putWord_45 : decode cX5_putWord 45 = .ok (.iload 5, 2) := by decide +kernel
theorem dX5_putWord_47 : decode cX5_putWord 47 = .ok (.invokevirtual 74, 3) := by decide +kernel
theorem dX5_putWord_50 : decode cX5_putWord 50 = .ok (.iadd, 1) := by decide +kernel
theorem dX5_putWord_51 : decode cX5_putWord 51 = .ok (.istore 6, 2) := by decide +kernel
theorem dX5_putWord_53 : decode cX5_putWord 53 = .ok (.iload 6, 2) := by decide +kernel
theorem dX5_putWord_55 : decode cX5_putWord 55 = .ok (.iload_n 2, 1) := by decide +kernel
theorem dX5_putWord_56 : decode cX5_putWord 56 = .ok (.aload_n 0, 1) := by decide +kernel
theorem dX5_putWord_57 : decode cX5_putWord 57 = .ok (.iload 5, 2) := by decide +kernel
theorem dX5_putWord_59 : decode cX5_putWord 59 = .ok (.iconst 1, 1) := by decide +kernel
theorem dX5_putWord_60 : decode cX5_putWord 60 = .ok (.iadd, 1) := by decide +kernel
theorem dX5_putWord_61 : decode cX5_putWord 61 = .ok (.invokevirtual 74, 3) := by decide +kernel
theorem dX5_putWord_64 : decode cX5_putWord 64 = .ok (.iadd, 1) := by decide +kernel
theorem dX5_putWord_65 : decode cX5_putWord 65 = .ok (.if_icmp .ge 26, 3) := by decide +kernel
theorem dX5_putWord_68 : decode cX5_putWord 68 = .ok (.aload_n 0, 1) := by decide +kernel
theorem dX5_putWord_69 : decode cX5_putWord 69 = .ok (.getfield 7, 3) := by decide +kernel
theorem dX5_putWord_72 : decode cX5_putWord 72 = .ok (.bipush 47, 2) := by decide +kernel
theorem dX5_putWord_74 : decode cX5_putWord 74 = .ok (.iload 6, 2) := by decide +kernel
theorem dX5_putWord_76 : decode cX5_putWord 76 = .ok (.iadd, 1) := by decide +kernel
theorem dX5_putWord_77 : decode cX5_putWord 77 = .ok (.iload 4, 2) := by decide +kernel
theorem dX5_putWord_79 : decode cX5_putWord 79 = .ok (.iload 5, 2) := by decide +kernel
theorem dX5_putWord_81 : decode cX5_putWord 81 = .ok (.ishr, 1) := by decide +kernel
theorem dX5_putWord_82 : decode cX5_putWord 82 = .ok (.iconst 1, 1) := by decide +kernel
theorem dX5_putWord_83 : decode cX5_putWord 83 = .ok (.iand, 1) := by decide +kernel
theorem dX5_putWord_84 : decode cX5_putWord 84 = .ok (.iastore, 1) := by decide +kernel
theorem dX5_putWord_85 : decode cX5_putWord 85 = .ok (.iinc 6 1, 3) := by decide +kernel
theorem dX5_putWord_88 : decode cX5_putWord 88 = .ok (.goto (-35), 3) := by decide +kernel
theorem dX5_putWord_91 : decode cX5_putWord 91 = .ok (.iinc 5 1, 3) := by decide +kernel
theorem dX5_putWord_94 : decode cX5_putWord 94 = .ok (.goto (-57), 3) := by decide +kernel
theorem dX5_putWord_97 : decode cX5_putWord 97 = .ok (.aload_n 0, 1) := by decide +kernel
theorem dX5_putWord_98 : decode cX5_putWord 98 = .ok (.getfield 7, 3) := by decide +kernel
theorem dX5_putWord_101 : decode cX5_putWord 101 = .ok (.iconst 5, 1) := by decide +kernel
theorem dX5_putWord_102 : decode cX5_putWord 102 = .ok (.iload_n 2, 1) := by decide +kernel
theorem dX5_putWord_103 : decode cX5_putWord 103 = .ok (.aload_n 0, 1) := by decide +kernel
theorem dX5_putWord_104 : decode cX5_putWord 104 = .ok (.iload_n 3, 1) := by decide +kernel
theorem dX5_putWord_105 : decode cX5_putWord 105 = .ok (.invokevirtual 74, 3) := by decide +kernel
theorem dX5_putWord_108 : decode cX5_putWord 108 = .ok (.iadd, 1) := by decide +kernel
theorem dX5_putWord_109 : decode cX5_putWord 109 = .ok (.iastore, 1) := by decide +kernel
theorem dX5_putWord_110 : decode cX5_putWord 110 = .ok (.aload_n 0, 1) := by decide +kernel
theorem dX5_putWord_111 : decode cX5_putWord 111 = .ok (.getfield 7, 3) := by decide +kernel
theorem dX5_putWord_114 : decode cX5_putWord 114 = .ok (.bipush 7, 2) := by decide +kernel
theorem dX5_putWord_116 : decode cX5_putWord 116 = .ok (.aload_n 0, 1) := by decide +kernel
theorem dX5_putWord_117 : decode cX5_putWord 117 = .ok (.getfield 7, 3) := by decide +kernel
theorem dX5_putWord_120 : decode cX5_putWord 120 = .ok (.bipush 6, 2) := by decide +kernel
theorem dX5_putWord_122 : decode cX5_putWord 122 = .ok (.iaload, 1) := by decide +kernel
theorem dX5_putWord_123 : decode cX5_putWord 123 = .ok (.iadd, 1) := by decide +kernel
theorem dX5_putWord_124 : decode cX5_putWord 124 = .ok (.iload_n 1, 1) := by decide +kernel
theorem dX5_putWord_125 : decode cX5_putWord 125 = .ok (.iastore, 1) := by decide +kernel
theorem dX5_putWord_126 : decode cX5_putWord 126 = .ok (.aload_n 0, 1) := by decide +kernel
theorem dX5_putWord_127 : decode cX5_putWord 127 = .ok (.getfield 7, 3) := by decide +kernel
theorem dX5_putWord_130 : decode cX5_putWord 130 = .ok (.bipush 6, 2) := by decide +kernel
theorem dX5_putWord_132 : decode cX5_putWord 132 = .ok (.dup2, 1) := by decide +kernel
theorem dX5_putWord_133 : decode cX5_putWord 133 = .ok (.iaload, 1) := by decide +kernel
theorem dX5_putWord_134 : decode cX5_putWord 134 = .ok (.iconst 1, 1) := by decide +kernel
theorem dX5_putWord_135 : decode cX5_putWord 135 = .ok (.iadd, 1) := by decide +kernel
theorem dX5_putWord_136 : decode cX5_putWord 136 = .ok (.iastore, 1) := by decide +kernel
theorem dX5_putWord_137 : decode cX5_putWord 137 = .ok (.iconst 1, 1) := by decide +kernel
theorem dX5_putWord_138 : decode cX5_putWord 138 = .ok (.ireturn, 1) := by decide +kernel
theorem dX5_putLevel_0 : decode cX5_putLevel 0 = .ok (.aload_n 0, 1) := by decide +kernel
theorem dX5_putLevel_1 : decode cX5_putLevel 1 = .ok (.getfield 7, 3) := by decide +kernel
theorem dX5_putLevel_4 : decode cX5_putLevel 4 = .ok (.iconst 5, 1) := by decide +kernel
theorem dX5_putLevel_5 : decode cX5_putLevel 5 = .ok (.iaload, 1) := by decide +kernel
theorem dX5_putLevel_6 : decode cX5_putLevel 6 = .ok (.iload_n 2, 1) := by decide +kernel
theorem dX5_putLevel_7 : decode cX5_putLevel 7 = .ok (.iadd, 1) := by decide +kernel
theorem dX5_putLevel_8 : decode cX5_putLevel 8 = .ok (.sipush 1500, 3) := by decide +kernel
theorem dX5_putLevel_11 : decode cX5_putLevel 11 = .ok (.if_icmp .le 5, 3) := by decide +kernel
theorem dX5_putLevel_14 : decode cX5_putLevel 14 = .ok (.iconst 0, 1) := by decide +kernel
theorem dX5_putLevel_15 : decode cX5_putLevel 15 = .ok (.ireturn, 1) := by decide +kernel
theorem dX5_putLevel_16 : decode cX5_putLevel 16 = .ok (.iconst 0, 1) := by decide +kernel
theorem dX5_putLevel_17 : decode cX5_putLevel 17 = .ok (.istore_n 3, 1) := by decide +kernel
theorem dX5_putLevel_18 : decode cX5_putLevel 18 = .ok (.iload_n 3, 1) := by decide +kernel
theorem dX5_putLevel_19 : decode cX5_putLevel 19 = .ok (.iload_n 2, 1) := by decide +kernel
theorem dX5_putLevel_20 : decode cX5_putLevel 20 = .ok (.if_icmp .ge 26, 3) := by decide +kernel
theorem dX5_putLevel_23 : decode cX5_putLevel 23 = .ok (.aload_n 0, 1) := by decide +kernel
theorem dX5_putLevel_24 : decode cX5_putLevel 24 = .ok (.getfield 7, 3) := by decide +kernel
theorem dX5_putLevel_27 : decode cX5_putLevel 27 = .ok (.bipush 47, 2) := by decide +kernel
theorem dX5_putLevel_29 : decode cX5_putLevel 29 = .ok (.aload_n 0, 1) := by decide +kernel
theorem dX5_putLevel_30 : decode cX5_putLevel 30 = .ok (.getfield 7, 3) := by decide +kernel
theorem dX5_putLevel_33 : decode cX5_putLevel 33 = .ok (.iconst 5, 1) := by decide +kernel
theorem dX5_putLevel_34 : decode cX5_putLevel 34 = .ok (.iaload, 1) := by decide +kernel
theorem dX5_putLevel_35 : decode cX5_putLevel 35 = .ok (.iadd, 1) := by decide +kernel
theorem dX5_putLevel_36 : decode cX5_putLevel 36 = .ok (.iload_n 3, 1) := by decide +kernel
theorem dX5_putLevel_37 : decode cX5_putLevel 37 = .ok (.iadd, 1) := by decide +kernel
theorem dX5_putLevel_38 : decode cX5_putLevel 38 = .ok (.iload_n 1, 1) := by decide +kernel
theorem dX5_putLevel_39 : decode cX5_putLevel 39 = .ok (.iastore, 1) := by decide +kernel
theorem dX5_putLevel_40 : decode cX5_putLevel 40 = .ok (.iinc 3 1, 3) := by decide +kernel
theorem dX5_putLevel_43 : decode cX5_putLevel 43 = .ok (.goto (-25), 3) := by decide +kernel
theorem dX5_putLevel_46 : decode cX5_putLevel 46 = .ok (.aload_n 0, 1) := by decide +kernel
theorem dX5_putLevel_47 : decode cX5_putLevel 47 = .ok (.getfield 7, 3) := by decide +kernel
theorem dX5_putLevel_50 : decode cX5_putLevel 50 = .ok (.iconst 5, 1) := by decide +kernel
theorem dX5_putLevel_51 : decode cX5_putLevel 51 = .ok (.dup2, 1) := by decide +kernel
theorem dX5_putLevel_52 : decode cX5_putLevel 52 = .ok (.iaload, 1) := by decide +kernel
theorem dX5_putLevel_53 : decode cX5_putLevel 53 = .ok (.iload_n 2, 1) := by decide +kernel
theorem dX5_putLevel_54 : decode cX5_putLevel 54 = .ok (.iadd, 1) := by decide +kernel
theorem dX5_putLevel_55 : decode cX5_putLevel 55 = .ok (.iastore, 1) := by decide +kernel
theorem dX5_putLevel_56 : decode cX5_putLevel 56 = .ok (.iconst 1, 1) := by decide +kernel
theorem dX5_putLevel_57 : decode cX5_putLevel 57 = .ok (.ireturn, 1) := by decide +kernel
set_option maxRecDepth 20000 in
theorem ggX5_send_X5_within : GoodIn wsX5_send wsX5_within := goodIn_r _ [5] (by decide +kernel) (by decide +kernel)
set_option maxRecDepth 20000 in
theorem gX5_send_X5_within : GoodIn wsX5_send (va_wsS RX5 80 yX5_within wsX5_within) := goodIn_app (goodIn_of _ (by decide +kernel)) ggX5_send_X5_within
set_option maxRecDepth 20000 in
theorem ggX5_send_X5_putAside : GoodIn wsX5_send wsX5_putAside := goodIn_r _ [9, 10, 1, 40, 41, 42, 43, 44, 45, 46, 47, 48, 49, 50, 51, 52, 53, 54, 55, 56, 57, 58, 59] (by decide +kernel) (by decide +kernel)
set_option maxRecDepth 20000 in
theorem gX5_send_X5_putAside : GoodIn wsX5_send (wsV RX5 50 RX5 yX5_putAside wsX5_putAside) := goodIn_app (goodIn_of _ (by decide +kernel)) ggX5_send_X5_putAside
set_option maxRecDepth 20000 in
theorem ggX5_send_X5_putWord : GoodIn wsX5_send wsX5_putWord := goodIn_r _ [14, 1, 15, 16, 17, 4, 18, 19, 20, 21, 22, 23, 24, 25, 26, 27, 28, 29, 30, 31, 32, 33, 40, 41, 42, 43, 44, 45, 46, 47, 48, 49, 50, 51, 52, 53, 54, 55, 56, 57, 58, 59] (by decide +kernel) (by decide +kernel)
set_option maxRecDepth 20000 in
theorem gX5_send_X5_putWord : GoodIn wsX5_send (wsV RX5 84 RX5 yX5_putWord wsX5_putWord) := goodIn_app (goodIn_of _ (by decide +kernel)) ggX5_send_X5_putWord
set_option maxRecDepth 20000 in
theorem ggX5_send_X5_push : GoodIn wsX5_send wsX5_push := goodIn_r _ [37, 38, 39, 10, 40, 41, 42, 43, 44, 45, 46, 47, 48, 49, 50, 51, 52, 53, 54, 55, 56, 57, 58, 59] (by decide +kernel) (by decide +kernel)
set_option maxRecDepth 20000 in
theorem gX5_send_X5_push : GoodIn wsX5_send (wsV RX5 53 RX5 yX5_push wsX5_push) := goodIn_app (goodIn_of _ (by decide +kernel)) ggX5_send_X5_push
theorem dX5_send_0 : decode cX5_send 0 = .ok (.iload_n 1, 1) := by decide +kernel
theorem dX5_send_1 : decode cX5_send 1 = .ok (.iconst 0, 1) := by decide +kernel
theorem dX5_send_2 : decode cX5_send 2 = .ok (.sipush 255, 3) := by decide +kernel
theorem dX5_send_5 : decode cX5_send 5 = .ok (.invokestatic 80, 3) := by decide +kernel
theorem dX5_send_8 : decode cX5_send 8 = .ok (.ifCond .ne 6, 3) := by decide +kernel
theorem dX5_send_11 : decode cX5_send 11 = .ok (.bipush (-2), 2) := by decide +kernel
theorem dX5_send_13 : decode cX5_send 13 = .ok (.ireturn, 1) := by decide +kernel
theorem dX5_send_14 : decode cX5_send 14 = .ok (.aload_n 0, 1) := by decide +kernel
theorem dX5_send_15 : decode cX5_send 15 = .ok (.invokevirtual 50, 3) := by decide +kernel
theorem dX5_send_18 : decode cX5_send 18 = .ok (.aload_n 0, 1) := by decide +kernel
theorem dX5_send_19 : decode cX5_send 19 = .ok (.iload_n 1, 1) := by decide +kernel
theorem dX5_send_20 : decode cX5_send 20 = .ok (.invokevirtual 84, 3) := by decide +kernel
theorem dX5_send_23 : decode cX5_send 23 = .ok (.ifCond .ne 6, 3) := by decide +kernel
theorem dX5_send_26 : decode cX5_send 26 = .ok (.bipush (-3), 2) := by decide +kernel
theorem dX5_send_28 : decode cX5_send 28 = .ok (.ireturn, 1) := by decide +kernel
theorem dX5_send_29 : decode cX5_send 29 = .ok (.aload_n 0, 1) := by decide +kernel
theorem dX5_send_30 : decode cX5_send 30 = .ok (.invokevirtual 53, 3) := by decide +kernel
theorem dX5_send_33 : decode cX5_send 33 = .ok (.aload_n 0, 1) := by decide +kernel
theorem dX5_send_34 : decode cX5_send 34 = .ok (.getfield 7, 3) := by decide +kernel
theorem dX5_send_37 : decode cX5_send 37 = .ok (.iconst 5, 1) := by decide +kernel
theorem dX5_send_38 : decode cX5_send 38 = .ok (.iaload, 1) := by decide +kernel
theorem dX5_send_39 : decode cX5_send 39 = .ok (.ireturn, 1) := by decide +kernel
set_option maxRecDepth 20000 in
theorem ggX5_putsLevel_X5_within : GoodIn wsX5_putsLevel wsX5_within := goodIn_r _ [5] (by decide +kernel) (by decide +kernel)
set_option maxRecDepth 20000 in
theorem gX5_putsLevel_X5_within : GoodIn wsX5_putsLevel (va_wsS RX5 80 yX5_within wsX5_within) := goodIn_app (goodIn_of _ (by decide +kernel)) ggX5_putsLevel_X5_within
set_option maxRecDepth 20000 in
theorem ggX5_putsLevel_X5_putAside : GoodIn wsX5_putsLevel wsX5_putAside := goodIn_r _ [9, 10, 1, 21, 22, 23, 24, 25, 26, 27, 28, 29, 30, 31, 32, 33, 34, 35, 36, 37, 38, 39, 40] (by decide +kernel) (by decide +kernel)
set_option maxRecDepth 20000 in
theorem gX5_putsLevel_X5_putAside : GoodIn wsX5_putsLevel (wsV RX5 50 RX5 yX5_putAside wsX5_putAside) := goodIn_app (goodIn_of _ (by decide +kernel)) ggX5_putsLevel_X5_putAside
set_option maxRecDepth 20000 in
theorem ggX5_putsLevel_X5_putLevel : GoodIn wsX5_putsLevel wsX5_putLevel := goodIn_r _ [14, 1, 21, 22, 23, 24, 25, 26, 27, 28, 29, 30, 31, 32, 33, 34, 35, 36, 37, 38, 39, 40] (by decide +kernel) (by decide +kernel)
set_option maxRecDepth 20000 in
theorem gX5_putsLevel_X5_putLevel : GoodIn wsX5_putsLevel (wsV RX5 88 RX5 yX5_putLevel wsX5_putLevel) := goodIn_app (goodIn_of _ (by decide +kernel)) ggX5_putsLevel_X5_putLevel
set_option maxRecDepth 20000 in
theorem ggX5_putsLevel_X5_push : GoodIn wsX5_putsLevel wsX5_push := goodIn_r _ [18, 19, 20, 10, 21, 22, 23, 24, 25, 26, 27, 28, 29, 30, 31, 32, 33, 34, 35, 36, 37, 38, 39, 40] (by decide +kernel) (by decide +kernel)
set_option maxRecDepth 20000 in
theorem gX5_putsLevel_X5_push : GoodIn wsX5_putsLevel (wsV RX5 53 RX5 yX5_push wsX5_push) := goodIn_app (goodIn_of _ (by decide +kernel)) ggX5_putsLevel_X5_push
theorem dX5_putsLevel_0 : decode cX5_putsLevel 0 = .ok (.iload_n 2, 1) := by decide +kernel
theorem dX5_putsLevel_1 : decode cX5_putsLevel 1 = .ok (.iconst 1, 1) := by decide +kernel
theorem dX5_putsLevel_2 : decode cX5_putsLevel 2 = .ok (.sipush 500, 3) := by decide +kernel
theorem dX5_putsLevel_5 : decode cX5_putsLevel 5 = .ok (.invokestatic 80, 3) := by decide +kernel
theorem dX5_putsLevel_8 : decode cX5_putsLevel 8 = .ok (.ifCond .ne 6, 3) := by decide +kernel
theorem dX5_putsLevel_11 : decode cX5_putsLevel 11 = .ok (.bipush (-2), 2) := by decide +kernel
theorem dX5_putsLevel_13 : decode cX5_putsLevel 13 = .ok (.ireturn, 1) := by decide +kernel
theorem dX5_putsLevel_14 : decode cX5_putsLevel 14 = .ok (.aload_n 0, 1) := by decide +kernel
theorem dX5_putsLevel_15 : decode cX5_putsLevel 15 = .ok (.invokevirtual 50, 3) := by decide +kernel
theorem dX5_putsLevel_18 : decode cX5_putsLevel 18 = .ok (.aload_n 0, 1) := by decide +kernel
theorem dX5_putsLevel_19 : decode cX5_putsLevel 19 = .ok (.iload_n 1, 1) := by decide +kernel
theorem dX5_putsLevel_20 : decode cX5_putsLevel 20 = .ok (.iload_n 2, 1) := by decide +kernel
theorem dX5_putsLevel_21 : decode cX5_putsLevel 21 = .ok (.invokevirtual 88, 3) := by decide +kernel
theorem dX5_putsLevel_24 : decode cX5_putsLevel 24 = .ok (.ifCond .ne 6, 3) := by decide +kernel
theorem dX5_putsLevel_27 : decode cX5_putsLevel 27 = .ok (.bipush (-3), 2) := by decide +kernel
theorem dX5_putsLevel_29 : decode cX5_putsLevel 29 = .ok (.ireturn, 1) := by decide +kernel
theorem dX5_putsLevel_30 : decode cX5_putsLevel 30 = .ok (.aload_n 0, 1) := by decide +kernel
theorem dX5_putsLevel_31 : decode cX5_putsLevel 31 = .ok (.invokevirtual 53, 3) := by decide +kernel
theorem dX5_putsLevel_34 : decode cX5_putsLevel 34 = .ok (.aload_n 0, 1) := by decide +kernel
theorem dX5_putsLevel_35 : decode cX5_putsLevel 35 = .ok (.getfield 7, 3) := by decide +kernel
theorem dX5_putsLevel_38 : decode cX5_putsLevel 38 = .ok (.iconst 5, 1) := by decide +kernel
theorem dX5_putsLevel_39 : decode cX5_putsLevel 39 = .ok (.iaload, 1) := by decide +kernel
theorem dX5_putsLevel_40 : decode cX5_putsLevel 40 = .ok (.ireturn, 1) := by decide +kernel
set_option maxRecDepth 20000 in
theorem ggX5_pause_X5_putsLevel : GoodIn wsX5_pause wsX5_putsLevel := goodIn_r _ [5, 6, 7, 8, 4, 9, 10, 11, 12, 13, 14, 15, 16, 17, 18, 19, 20, 21, 22, 23, 24, 25, 26, 27, 28, 29, 30, 31, 32, 33, 34, 35, 36, 37, 38, 39, 40, 41, 42, 43, 44] (by decide +kernel) (by decide +kernel)
set_option maxRecDepth 20000 in
theorem gX5_pause_X5_putsLevel : GoodIn wsX5_pause (wsV RX5 92 RX5 yX5_putsLevel wsX5_putsLevel) := goodIn_app (goodIn_of _ (by decide +kernel)) ggX5_pause_X5_putsLevel
theorem dX5_pause_0 : decode cX5_pause 0 = .ok (.aload_n 0, 1) := by decide +kernel
theorem dX5_pause_1 : decode cX5_pause 1 = .ok (.iconst 1, 1) := by decide +kernel
theorem dX5_pause_2 : decode cX5_pause 2 = .ok (.iload_n 1, 1) := by decide +kernel
theorem dX5_pause_3 : decode cX5_pause 3 = .ok (.invokevirtual 92, 3) := by decide +kernel
theorem dX5_pause_6 : decode cX5_pause 6 = .ok (.ireturn, 1) := by decide +kernel
set_option maxRecDepth 20000 in
theorem ggX5_sendBreak_X5_putsLevel : GoodIn wsX5_sendBreak wsX5_putsLevel := goodIn_r _ [5, 6, 7, 8, 4, 9, 10, 11, 12, 13, 14, 15, 16, 17, 18, 19, 20, 21, 22, 23, 24, 25, 26, 27, 28, 29, 30, 31, 32, 33, 34, 35, 36, 37, 38, 39, 40, 41, 42, 43, 44] (by decide +kernel) (by decide +kernel)
set_option maxRecDepth 20000 in
theorem gX5_sendBreak_X5_putsLevel : GoodIn wsX5_sendBreak (wsV RX5 92 RX5 yX5_putsLevel wsX5_putsLevel) := goodIn_app (goodIn_of _ (by decide +kernel)) ggX5_sendBreak_X5_putsLevel
theorem dX5_sendBreak_0 : decode cX5_sendBreak 0 = .ok (.aload_n 0, 1) := by decide +kernel
theorem dX5_sendBreak_1 : decode cX5_sendBreak 1 = .ok (.iconst 0, 1) := by decide +kernel
theorem dX5_sendBreak_2 : decode cX5_sendBreak 2 = .ok (.iload_n 1, 1) := by decide +kernel
theorem dX5_sendBreak_3 : decode cX5_sendBreak 3 = .ok (.invokevirtual 92, 3) := by decide +kernel
theorem dX5_sendBreak_6 : decode cX5_sendBreak 6 = .ok (.ireturn, 1) := by decide +kernel
theorem dX5_flip_0 : decode cX5_flip 0 = .ok (.iconst 0, 1) := by decide +kernel
theorem dX5_flip_1 : decode cX5_flip 1 = .ok (.istore_n 3, 1) := by decide +kernel
theorem dX5_flip_2 : decode cX5_flip 2 = .ok (.iload_n 3, 1) := by decide +kernel
theorem dX5_flip_3 : decode cX5_flip 3 = .ok (.iload_n 2, 1) := by decide +kernel
theorem dX5_flip_4 : decode cX5_flip 4 = .ok (.if_icmp .ge 33, 3) := by decide +kernel
theorem dX5_flip_7 : decode cX5_flip 7 = .ok (.aload_n 0, 1) := by decide +kernel
theorem dX5_flip_8 : decode cX5_flip 8 = .ok (.getfield 7, 3) := by decide +kernel
theorem dX5_flip_11 : decode cX5_flip 11 = .ok (.bipush 47, 2) := by decide +kernel
theorem dX5_flip_13 : decode cX5_flip 13 = .ok (.iload_n 1, 1) := by decide +kernel
theorem dX5_flip_14 : decode cX5_flip 14 = .ok (.iadd, 1) := by decide +kernel
theorem dX5_flip_15 : decode cX5_flip 15 = .ok (.iload_n 3, 1) := by decide +kernel
theorem dX5_flip_16 : decode cX5_flip 16 = .ok (.iadd, 1) := by decide +kernel
theorem dX5_flip_17 : decode cX5_flip 17 = .ok (.iconst 1, 1) := by decide +kernel
theorem dX5_flip_18 : decode cX5_flip 18 = .ok (.aload_n 0, 1) := by decide +kernel
theorem dX5_flip_19 : decode cX5_flip 19 = .ok (.getfield 7, 3) := by decide +kernel
theorem dX5_flip_22 : decode cX5_flip 22 = .ok (.bipush 47, 2) := by decide +kernel
theorem dX5_flip_24 : decode cX5_flip 24 = .ok (.iload_n 1, 1) := by decide +kernel
theorem dX5_flip_25 : decode cX5_flip 25 = .ok (.iadd, 1) := by decide +kernel
theorem dX5_flip_26 : decode cX5_flip 26 = .ok (.iload_n 3, 1) := by decide +kernel
theorem dX5_flip_27 : decode cX5_flip 27 = .ok (.iadd, 1) := by decide +kernel
theorem dX5_flip_28 : decode cX5_flip 28 = .ok (.iaload, 1) := by decide +kernel
theorem dX5_flip_29 : decode cX5_flip 29 = .ok (.isub, 1) := by decide +kernel
theorem dX5_flip_30 : decode cX5_flip 30 = .ok (.iastore, 1) := by decide +kernel
theorem dX5_flip_31 : decode cX5_flip 31 = .ok (.iinc 3 1, 3) := by decide +kernel
theorem dX5_flip_34 : decode cX5_flip 34 = .ok (.goto (-32), 3) := by decide +kernel
theorem dX5_flip_37 : decode cX5_flip 37 = .ok (.return_, 1) := by decide +kernel
set_option maxRecDepth 20000 in
theorem ggX5_disturb_X5_within : GoodIn wsX5_disturb wsX5_within := goodIn_r _ [5] (by decide +kernel) (by decide +kernel)
set_option maxRecDepth 20000 in
theorem gX5_disturb_X5_within : GoodIn wsX5_disturb (va_wsS RX5 80 yX5_within wsX5_within) := goodIn_app (goodIn_of _ (by decide +kernel)) ggX5_disturb_X5_within
set_option maxRecDepth 20000 in
theorem ggX5_disturb_X5_record : GoodIn wsX5_disturb wsX5_record := goodIn_r _ [9, 10, 11, 12, 4, 13, 14, 1, 15, 16, 17, 18, 19, 20, 25, 26, 27, 28, 29, 30, 31, 32, 33, 34, 35, 36, 37, 38, 39, 40, 41, 42, 43, 44] (by decide +kernel) (by decide +kernel)
set_option maxRecDepth 20000 in
theorem gX5_disturb_X5_record : GoodIn wsX5_disturb (wsV RX5 60 RX5 yX5_record wsX5_record) := goodIn_app (goodIn_of _ (by decide +kernel)) ggX5_disturb_X5_record
set_option maxRecDepth 20000 in
theorem ggX5_disturb_X5_flip : GoodIn wsX5_disturb wsX5_flip := goodIn_r _ [24, 1, 25, 26, 27, 28, 29, 30, 31, 32, 33, 34, 35, 36, 37, 38, 39, 40, 41, 42, 43, 44] (by decide +kernel) (by decide +kernel)
set_option maxRecDepth 20000 in
theorem gX5_disturb_X5_flip : GoodIn wsX5_disturb (wsV RX5 96 RX5 yX5_flip wsX5_flip) := goodIn_app (goodIn_of _ (by decide +kernel)) ggX5_disturb_X5_flip
theorem dX5_disturb_0 : decode cX5_disturb 0 = .ok (.iload_n 1, 1) := by decide +kernel
theorem dX5_disturb_1 : decode cX5_disturb 1 = .ok (.ifCond .lt 25, 3) := by decide +kernel
theorem dX5_disturb_4 : decode cX5_disturb 4 = .ok (.iload_n 2, 1) := by decide +kernel
theorem dX5_disturb_5 : decode cX5_disturb 5 = .ok (.iconst 1, 1) := by decide +kernel
theorem dX5_disturb_6 : decode cX5_disturb 6 = .ok (.bipush 40, 2) := by decide +kernel
theorem dX5_disturb_8 : decode cX5_disturb 8 = .ok (.invokestatic 80, 3) := by decide +kernel
theorem dX5_disturb_11 : decode cX5_disturb 11 = .ok (.ifCond .eq 15, 3) := by decide +kernel
theorem dX5_disturb_14 : decode cX5_disturb 14 = .ok (.iload_n 1, 1) := by decide +kernel
theorem dX5_disturb_15 : decode cX5_disturb 15 = .ok (.aload_n 0, 1) := by decide +kernel
theorem dX5_disturb_16 : decode cX5_disturb 16 = .ok (.getfield 7, 3) := by decide +kernel
theorem dX5_disturb_19 : decode cX5_disturb 19 = .ok (.iconst 5, 1) := by decide +kernel
theorem dX5_disturb_20 : decode cX5_disturb 20 = .ok (.iaload, 1) := by decide +kernel
theorem dX5_disturb_21 : decode cX5_disturb 21 = .ok (.iload_n 2, 1) := by decide +kernel
theorem dX5_disturb_22 : decode cX5_disturb 22 = .ok (.isub, 1) := by decide +kernel
theorem dX5_disturb_23 : decode cX5_disturb 23 = .ok (.if_icmp .le 6, 3) := by decide +kernel
theorem dX5_disturb_26 : decode cX5_disturb 26 = .ok (.bipush (-2), 2) := by decide +kernel
theorem dX5_disturb_28 : decode cX5_disturb 28 = .ok (.ireturn, 1) := by decide +kernel
theorem dX5_disturb_29 : decode cX5_disturb 29 = .ok (.aload_n 0, 1) := by decide +kernel
theorem dX5_disturb_30 : decode cX5_disturb 30 = .ok (.invokevirtual 60, 3) := by decide +kernel
theorem dX5_disturb_33 : decode cX5_disturb 33 = .ok (.aload_n 0, 1) := by decide +kernel
theorem dX5_disturb_34 : decode cX5_disturb 34 = .ok (.iload_n 1, 1) := by decide +kernel
theorem dX5_disturb_35 : decode cX5_disturb 35 = .ok (.iload_n 2, 1) := by decide +kernel
theorem dX5_disturb_36 : decode cX5_disturb 36 = .ok (.invokevirtual 96, 3) := by decide +kernel
theorem dX5_disturb_39 : decode cX5_disturb 39 = .ok (.iconst 0, 1) := by decide +kernel
theorem dX5_disturb_40 : decode cX5_disturb 40 = .ok (.istore_n 3, 1) := by decide +kernel
theorem dX5_disturb_41 : decode cX5_disturb 41 = .ok (.iconst 0, 1) := by decide +kernel
theorem dX5_disturb_42 : decode cX5_disturb 42 = .ok (.istore 4, 2) := by decide +kernel
theorem dX5_disturb_44 : decode cX5_disturb 44 = .ok (.iload 4, 2) := by decide +kernel
theorem dX5_disturb_46 : decode cX5_disturb 46 = .ok (.iload_n 2, 1) := by decide +kernel
theorem dX5_disturb_47 : decode cX5_disturb 47 = .ok (.if_icmp .ge 24, 3) := by decide +kernel
theorem dX5_disturb_50 : decode cX5_disturb 50 = .ok (.iload_n 3, 1) := by decide +kernel
theorem dX5_disturb_51 : decode cX5_disturb 51 = .ok (.aload_n 0, 1) := by decide +kernel
theorem dX5_disturb_52 : decode cX5_disturb 52 = .ok (.getfield 7, 3) := by decide +kernel
theorem dX5_disturb_55 : decode cX5_disturb 55 = .ok (.bipush 47, 2) := by decide +kernel
theorem dX5_disturb_57 : decode cX5_disturb 57 = .ok (.iload_n 1, 1) := by decide +kernel
theorem dX5_disturb_58 : decode cX5_disturb 58 = .ok (.iadd, 1) := by decide +kernel
theorem dX5_disturb_59 : decode cX5_disturb 59 = .ok (.iload 4, 2) := by decide +kernel
theorem dX5_disturb_61 : decode cX5_disturb 61 = .ok (.iadd, 1) := by decide +kernel
theorem dX5_disturb_62 : decode cX5_disturb 62 = .ok (.iaload, 1) := by decide +kernel
theorem dX5_disturb_63 : decode cX5_disturb 63 = .ok (.iadd, 1) := by decide +kernel
theorem dX5_disturb_64 : decode cX5_disturb 64 = .ok (.istore_n 3, 1) := by decide +kernel
theorem dX5_disturb_65 : decode cX5_disturb 65 = .ok (.iinc 4 1, 3) := by decide +kernel
theorem dX5_disturb_68 : decode cX5_disturb 68 = .ok (.goto (-24), 3) := by decide +kernel
theorem dX5_disturb_71 : decode cX5_disturb 71 = .ok (.iload_n 3, 1) := by decide +kernel
theorem dX5_disturb_72 : decode cX5_disturb 72 = .ok (.ireturn, 1) := by decide +kernel
set_option maxRecDepth 20000 in
theorem ggX5_clear_X5_record : GoodIn wsX5_clear wsX5_record := goodIn_r _ [6, 7, 8, 9, 5, 10, 11, 1, 12, 13, 14, 15, 16, 17, 18, 19, 20, 21, 22, 23, 24, 25, 26, 27, 28, 29, 30, 31, 32, 33, 34, 35, 36, 37] (by decide +kernel) (by decide +kernel)
set_option maxRecDepth 20000 in
theorem gX5_clear_X5_record : GoodIn wsX5_clear (wsV RX5 60 RX5 yX5_record wsX5_record) := goodIn_app (goodIn_of _ (by decide +kernel)) ggX5_clear_X5_record
theorem dX5_clear_0 : decode cX5_clear 0 = .ok (.aload_n 0, 1) := by decide +kernel
theorem dX5_clear_1 : decode cX5_clear 1 = .ok (.invokevirtual 60, 3) := by decide +kernel
theorem dX5_clear_4 : decode cX5_clear 4 = .ok (.aload_n 0, 1) := by decide +kernel
theorem dX5_clear_5 : decode cX5_clear 5 = .ok (.getfield 7, 3) := by decide +kernel
theorem dX5_clear_8 : decode cX5_clear 8 = .ok (.iconst 5, 1) := by decide +kernel
theorem dX5_clear_9 : decode cX5_clear 9 = .ok (.iaload, 1) := by decide +kernel
theorem dX5_clear_10 : decode cX5_clear 10 = .ok (.istore_n 1, 1) := by decide +kernel
theorem dX5_clear_11 : decode cX5_clear 11 = .ok (.iconst 5, 1) := by decide +kernel
theorem dX5_clear_12 : decode cX5_clear 12 = .ok (.istore_n 2, 1) := by decide +kernel
theorem dX5_clear_13 : decode cX5_clear 13 = .ok (.iload_n 2, 1) := by decide +kernel
theorem dX5_clear_14 : decode cX5_clear 14 = .ok (.sipush 1547, 3) := by decide +kernel
theorem dX5_clear_17 : decode cX5_clear 17 = .ok (.if_icmp .ge 16, 3) := by decide +kernel
theorem dX5_clear_20 : decode cX5_clear 20 = .ok (.aload_n 0, 1) := by decide +kernel
theorem dX5_clear_21 : decode cX5_clear 21 = .ok (.getfield 7, 3) := by decide +kernel
theorem dX5_clear_24 : decode cX5_clear 24 = .ok (.iload_n 2, 1) := by decide +kernel
theorem dX5_clear_25 : decode cX5_clear 25 = .ok (.iconst 0, 1) := by decide +kernel
theorem dX5_clear_26 : decode cX5_clear 26 = .ok (.iastore, 1) := by decide +kernel
theorem dX5_clear_27 : decode cX5_clear 27 = .ok (.iinc 2 1, 3) := by decide +kernel
theorem dX5_clear_30 : decode cX5_clear 30 = .ok (.goto (-17), 3) := by decide +kernel
theorem dX5_clear_33 : decode cX5_clear 33 = .ok (.iload_n 1, 1) := by decide +kernel
theorem dX5_clear_34 : decode cX5_clear 34 = .ok (.ireturn, 1) := by decide +kernel
set_option maxRecDepth 20000 in
theorem ggX5_isValue_X5_within : GoodIn wsX5_isValue wsX5_within := goodIn_r _ [4] (by decide +kernel) (by decide +kernel)
set_option maxRecDepth 20000 in
theorem gX5_isValue_X5_within : GoodIn wsX5_isValue (va_wsS RX5 80 yX5_within wsX5_within) := goodIn_app (goodIn_of _ (by decide +kernel)) ggX5_isValue_X5_within
theorem dX5_isValue_0 : decode cX5_isValue 0 = .ok (.iload_n 0, 1) := by decide +kernel
theorem dX5_isValue_1 : decode cX5_isValue 1 = .ok (.tableswitch 63 0 3 #[31, 41, 49, 56], 31) := by decide +kernel
theorem dX5_isValue_32 : decode cX5_isValue 32 = .ok (.iload_n 1, 1) := by decide +kernel
theorem dX5_isValue_33 : decode cX5_isValue 33 = .ok (.bipush 64, 2) := by decide +kernel
theorem dX5_isValue_35 : decode cX5_isValue 35 = .ok (.sipush 640, 3) := by decide +kernel
theorem dX5_isValue_38 : decode cX5_isValue 38 = .ok (.invokestatic 80, 3) := by decide +kernel
theorem dX5_isValue_41 : decode cX5_isValue 41 = .ok (.ireturn, 1) := by decide +kernel
theorem dX5_isValue_42 : decode cX5_isValue 42 = .ok (.iload_n 1, 1) := by decide +kernel
theorem dX5_isValue_43 : decode cX5_isValue 43 = .ok (.iconst 4, 1) := by decide +kernel
theorem dX5_isValue_44 : decode cX5_isValue 44 = .ok (.bipush 40, 2) := by decide +kernel
theorem dX5_isValue_46 : decode cX5_isValue 46 = .ok (.invokestatic 80, 3) := by decide +kernel
theorem dX5_isValue_49 : decode cX5_isValue 49 = .ok (.ireturn, 1) := by decide +kernel
theorem dX5_isValue_50 : decode cX5_isValue 50 = .ok (.iload_n 1, 1) := by decide +kernel
theorem dX5_isValue_51 : decode cX5_isValue 51 = .ok (.iconst 0, 1) := by decide +kernel
theorem dX5_isValue_52 : decode cX5_isValue 52 = .ok (.iconst 2, 1) := by decide +kernel
theorem dX5_isValue_53 : decode cX5_isValue 53 = .ok (.invokestatic 80, 3) := by decide +kernel
theorem dX5_isValue_56 : decode cX5_isValue 56 = .ok (.ireturn, 1) := by decide +kernel
theorem dX5_isValue_57 : decode cX5_isValue 57 = .ok (.iload_n 1, 1) := by decide +kernel
theorem dX5_isValue_58 : decode cX5_isValue 58 = .ok (.iconst 1, 1) := by decide +kernel
theorem dX5_isValue_59 : decode cX5_isValue 59 = .ok (.iconst 2, 1) := by decide +kernel
theorem dX5_isValue_60 : decode cX5_isValue 60 = .ok (.invokestatic 80, 3) := by decide +kernel
theorem dX5_isValue_63 : decode cX5_isValue 63 = .ok (.ireturn, 1) := by decide +kernel
theorem dX5_isValue_64 : decode cX5_isValue 64 = .ok (.iload_n 1, 1) := by decide +kernel
theorem dX5_isValue_65 : decode cX5_isValue 65 = .ok (.iconst 0, 1) := by decide +kernel
theorem dX5_isValue_66 : decode cX5_isValue 66 = .ok (.iconst 1, 1) := by decide +kernel
theorem dX5_isValue_67 : decode cX5_isValue 67 = .ok (.invokestatic 80, 3) := by decide +kernel
theorem dX5_isValue_70 : decode cX5_isValue 70 = .ok (.ireturn, 1) := by decide +kernel
set_option maxRecDepth 20000 in
theorem ggX5_set_X5_within : GoodIn wsX5_set wsX5_within := goodIn_r _ [5] (by decide +kernel) (by decide +kernel)
set_option maxRecDepth 20000 in
theorem gX5_set_X5_within : GoodIn wsX5_set (va_wsS RX5 80 yX5_within wsX5_within) := goodIn_app (goodIn_of _ (by decide +kernel)) ggX5_set_X5_within
set_option maxRecDepth 20000 in
theorem ggX5_set_X5_isValue : GoodIn wsX5_set wsX5_isValue := goodIn_r _ [8, 2, 3, 4, 5] (by decide +kernel) (by decide +kernel)
set_option maxRecDepth 20000 in
theorem gX5_set_X5_isValue : GoodIn wsX5_set (va_wsS RX5 100 yX5_isValue wsX5_isValue) := goodIn_app (goodIn_of _ (by decide +kernel)) ggX5_set_X5_isValue
set_option maxRecDepth 20000 in
theorem ggX5_set_X5_record : GoodIn wsX5_set wsX5_record := goodIn_r _ [12, 13, 14, 15, 4, 16, 17, 1, 18, 19, 20, 21, 22, 23, 24, 25, 26, 27, 28, 29, 30, 31, 32, 33, 34, 35, 36, 37, 38, 39, 40, 41, 42, 43] (by decide +kernel) (by decide +kernel)
set_option maxRecDepth 20000 in
theorem gX5_set_X5_record : GoodIn wsX5_set (wsV RX5 60 RX5 yX5_record wsX5_record) := goodIn_app (goodIn_of _ (by decide +kernel)) ggX5_set_X5_record
theorem dX5_set_0 : decode cX5_set 0 = .ok (.iload_n 1, 1) := by decide +kernel
theorem dX5_set_1 : decode cX5_set 1 = .ok (.iconst 0, 1) := by decide +kernel
theorem dX5_set_2 : decode cX5_set 2 = .ok (.iconst 4, 1) := by decide +kernel
theorem dX5_set_3 : decode cX5_set 3 = .ok (.invokestatic 80, 3) := by decide +kernel
theorem dX5_set_6 : decode cX5_set 6 = .ok (.ifCond .ne 5, 3) := by decide +kernel
theorem dX5_set_9 : decode cX5_set 9 = .ok (.iconst (-1), 1) := by decide +kernel
theorem dX5_set_10 : decode cX5_set 10 = .ok (.ireturn, 1) := by decide +kernel
theorem dX5_set_11 : decode cX5_set 11 = .ok (.iload_n 1, 1) := by decide +kernel
theorem dX5_set_12 : decode cX5_set 12 = .ok (.iload_n 2, 1) := by decide +kernel
theorem dX5_set_13 : decode cX5_set 13 = .ok (.invokestatic 100, 3) := by decide +kernel
theorem dX5_set_16 : decode cX5_set 16 = .ok (.ifCond .ne 6, 3) := by decide +kernel
theorem dX5_set_19 : decode cX5_set 19 = .ok (.bipush (-2), 2) := by decide +kernel
theorem dX5_set_21 : decode cX5_set 21 = .ok (.ireturn, 1) := by decide +kernel
theorem dX5_set_22 : decode cX5_set 22 = .ok (.aload_n 0, 1) := by decide +kernel
theorem dX5_set_23 : decode cX5_set 23 = .ok (.getfield 7, 3) := by decide +kernel
theorem dX5_set_26 : decode cX5_set 26 = .ok (.iload_n 1, 1) := by decide +kernel
theorem dX5_set_27 : decode cX5_set 27 = .ok (.iaload, 1) := by decide +kernel
theorem dX5_set_28 : decode cX5_set 28 = .ok (.istore_n 3, 1) := by decide +kernel
theorem dX5_set_29 : decode cX5_set 29 = .ok (.iload_n 3, 1) := by decide +kernel
theorem dX5_set_30 : decode cX5_set 30 = .ok (.iload_n 2, 1) := by decide +kernel
theorem dX5_set_31 : decode cX5_set 31 = .ok (.if_icmp .ne 6, 3) := by decide +kernel
theorem dX5_set_34 : decode cX5_set 34 = .ok (.bipush (-5), 2) := by decide +kernel
theorem dX5_set_36 : decode cX5_set 36 = .ok (.ireturn, 1) := by decide +kernel
theorem dX5_set_37 : decode cX5_set 37 = .ok (.aload_n 0, 1) := by decide +kernel
theorem dX5_set_38 : decode cX5_set 38 = .ok (.invokevirtual 60, 3) := by decide +kernel
theorem dX5_set_41 : decode cX5_set 41 = .ok (.aload_n 0, 1) := by decide +kernel
theorem dX5_set_42 : decode cX5_set 42 = .ok (.getfield 7, 3) := by decide +kernel
theorem dX5_set_45 : decode cX5_set 45 = .ok (.iload_n 1, 1) := by decide +kernel
theorem dX5_set_46 : decode cX5_set 46 = .ok (.iload_n 2, 1) := by decide +kernel
theorem dX5_set_47 : decode cX5_set 47 = .ok (.iastore, 1) := by decide +kernel
theorem dX5_set_48 : decode cX5_set 48 = .ok (.iload_n 3, 1) := by decide +kernel
theorem dX5_set_49 : decode cX5_set 49 = .ok (.ireturn, 1) := by decide +kernel
set_option maxRecDepth 20000 in
theorem ggX5_learn_X5_learned : GoodIn wsX5_learn wsX5_learned := goodIn_r _ [6, 7, 8, 9, 5, 10, 1, 11, 12, 13, 14, 15, 16, 17, 18, 19, 20, 21, 37, 38, 39, 40, 41, 42, 43, 44, 45, 46, 47, 48, 49, 50, 51, 52, 53, 54, 55, 56] (by decide +kernel) (by decide +kernel)
set_option maxRecDepth 20000 in
theorem gX5_learn_X5_learned : GoodIn wsX5_learn (wsV RX5 103 RX5 yX5_learned wsX5_learned) := goodIn_app (goodIn_of _ (by decide +kernel)) ggX5_learn_X5_learned
set_option maxRecDepth 20000 in
theorem ggX5_learn_X5_record : GoodIn wsX5_learn wsX5_record := goodIn_r _ [25, 26, 27, 28, 5, 29, 30, 1, 31, 32, 33, 34, 35, 36, 37, 38, 39, 40, 41, 42, 43, 44, 45, 46, 47, 48, 49, 50, 51, 52, 53, 54, 55, 56] (by decide +kernel) (by decide +kernel)
set_option maxRecDepth 20000 in
theorem gX5_learn_X5_record : GoodIn wsX5_learn (wsV RX5 60 RX5 yX5_record wsX5_record) := goodIn_app (goodIn_of _ (by decide +kernel)) ggX5_learn_X5_record
theorem dX5_learn_0 : decode cX5_learn 0 = .ok (.aload_n 0, 1) := by decide +kernel
theorem dX5_learn_1 : decode cX5_learn 1 = .ok (.invokevirtual 103, 3) := by decide +kernel
theorem dX5_learn_4 : decode cX5_learn 4 = .ok (.istore_n 1, 1) := by decide +kernel
theorem dX5_learn_5 : decode cX5_learn 5 = .ok (.iload_n 1, 1) := by decide +kernel
theorem dX5_learn_6 : decode cX5_learn 6 = .ok (.bipush (-5), 2) := by decide +kernel
theorem dX5_learn_8 : decode cX5_learn 8 = .ok (.if_icmp .eq 13, 3) := by decide +kernel
theorem dX5_learn_11 : decode cX5_learn 11 = .ok (.iload_n 1, 1) := by decide +kernel
theorem dX5_learn_12 : decode cX5_learn 12 = .ok (.aload_n 0, 1) := by decide +kernel
theorem dX5_learn_13 : decode cX5_learn 13 = .ok (.getfield 7, 3) := by decide +kernel
theorem dX5_learn_16 : decode cX5_learn 16 = .ok (.iconst 1, 1) := by decide +kernel
theorem dX5_learn_17 : decode cX5_learn 17 = .ok (.iaload, 1) := by decide +kernel
theorem dX5_learn_18 : decode cX5_learn 18 = .ok (.if_icmp .ne 6, 3) := by decide +kernel
theorem dX5_learn_21 : decode cX5_learn 21 = .ok (.bipush (-5), 2) := by decide +kernel
theorem dX5_learn_23 : decode cX5_learn 23 = .ok (.ireturn, 1) := by decide +kernel
theorem dX5_learn_24 : decode cX5_learn 24 = .ok (.aload_n 0, 1) := by decide +kernel
theorem dX5_learn_25 : decode cX5_learn 25 = .ok (.invokevirtual 60, 3) := by decide +kernel
theorem dX5_learn_28 : decode cX5_learn 28 = .ok (.aload_n 0, 1) := by decide +kernel
theorem dX5_learn_29 : decode cX5_learn 29 = .ok (.getfield 7, 3) := by decide +kernel
theorem dX5_learn_32 : decode cX5_learn 32 = .ok (.iconst 1, 1) := by decide +kernel
theorem dX5_learn_33 : decode cX5_learn 33 = .ok (.iload_n 1, 1) := by decide +kernel
theorem dX5_learn_34 : decode cX5_learn 34 = .ok (.iastore, 1) := by decide +kernel
theorem dX5_learn_35 : decode cX5_learn 35 = .ok (.iload_n 1, 1) := by decide +kernel
theorem dX5_learn_36 : decode cX5_learn 36 = .ok (.ireturn, 1) := by decide +kernel
theorem dX5_levelAt_0 : decode cX5_levelAt 0 = .ok (.iload_n 1, 1) := by decide +kernel
theorem dX5_levelAt_1 : decode cX5_levelAt 1 = .ok (.ifCond .lt 13, 3) := by decide +kernel
theorem dX5_levelAt_4 : decode cX5_levelAt 4 = .ok (.iload_n 1, 1) := by decide +kernel
theorem dX5_levelAt_5 : decode cX5_levelAt 5 = .ok (.aload_n 0, 1) := by decide +kernel
theorem dX5_levelAt_6 : decode cX5_levelAt 6 = .ok (.getfield 7, 3) := by decide +kernel
theorem dX5_levelAt_9 : decode cX5_levelAt 9 = .ok (.iconst 5, 1) := by decide +kernel
theorem dX5_levelAt_10 : decode cX5_levelAt 10 = .ok (.iaload, 1) := by decide +kernel
theorem dX5_levelAt_11 : decode cX5_levelAt 11 = .ok (.if_icmp .lt 7, 3) := by decide +kernel
theorem dX5_levelAt_14 : decode cX5_levelAt 14 = .ok (.iconst 1, 1) := by decide +kernel
theorem dX5_levelAt_15 : decode cX5_levelAt 15 = .ok (.goto 12, 3) := by decide +kernel
theorem dX5_levelAt_18 : decode cX5_levelAt 18 = .ok (.aload_n 0, 1) := by decide +kernel
theorem dX5_levelAt_19 : decode cX5_levelAt 19 = .ok (.getfield 7, 3) := by decide +kernel
theorem dX5_levelAt_22 : decode cX5_levelAt 22 = .ok (.bipush 47, 2) := by decide +kernel
theorem dX5_levelAt_24 : decode cX5_levelAt 24 = .ok (.iload_n 1, 1) := by decide +kernel
theorem dX5_levelAt_25 : decode cX5_levelAt 25 = .ok (.iadd, 1) := by decide +kernel
theorem dX5_levelAt_26 : decode cX5_levelAt 26 = .ok (.iaload, 1) := by decide +kernel
theorem dX5_levelAt_27 : decode cX5_levelAt 27 = .ok (.ireturn, 1) := by decide +kernel
set_option maxRecDepth 20000 in
theorem ggX5_isFall_X5_levelAt : GoodIn wsX5_isFall wsX5_levelAt := goodIn_r _ [5, 6, 7, 8, 9, 10, 11, 12, 13, 14, 15, 16, 17, 18, 19, 20, 21, 22, 23, 24, 25, 26] (by decide +kernel) (by decide +kernel)
set_option maxRecDepth 20000 in
theorem gX5_isFall_X5_levelAt : GoodIn wsX5_isFall (wsV RX5 106 RX5 yX5_levelAt wsX5_levelAt) := goodIn_app (goodIn_of _ (by decide +kernel)) ggX5_isFall_X5_levelAt
theorem dX5_isFall_0 : decode cX5_isFall 0 = .ok (.aload_n 0, 1) := by decide +kernel
theorem dX5_isFall_1 : decode cX5_isFall 1 = .ok (.iload_n 1, 1) := by decide +kernel
theorem dX5_isFall_2 : decode cX5_isFall 2 = .ok (.invokevirtual 106, 3) := by decide +kernel
theorem dX5_isFall_5 : decode cX5_isFall 5 = .ok (.ifCond .ne 18, 3) := by decide +kernel
theorem dX5_isFall_8 : decode cX5_isFall 8 = .ok (.aload_n 0, 1) := by decide +kernel
theorem dX5_isFall_9 : decode cX5_isFall 9 = .ok (.iload_n 1, 1) := by decide +kernel
theorem dX5_isFall_10 : decode cX5_isFall 10 = .ok (.iconst 1, 1) := by decide +kernel
theorem dX5_isFall_11 : decode cX5_isFall 11 = .ok (.isub, 1) := by decide +kernel
theorem dX5_isFall_12 : decode cX5_isFall 12 = .ok (.invokevirtual 106, 3) := by decide +kernel
theorem dX5_isFall_15 : decode cX5_isFall 15 = .ok (.iconst 1, 1) := by decide +kernel
theorem dX5_isFall_16 : decode cX5_isFall 16 = .ok (.if_icmp .ne 7, 3) := by decide +kernel
theorem dX5_isFall_19 : decode cX5_isFall 19 = .ok (.iconst 1, 1) := by decide +kernel
theorem dX5_isFall_20 : decode cX5_isFall 20 = .ok (.goto 4, 3) := by decide +kernel
theorem dX5_isFall_23 : decode cX5_isFall 23 = .ok (.iconst 0, 1) := by decide +kernel
theorem dX5_isFall_24 : decode cX5_isFall 24 = .ok (.ireturn, 1) := by decide +kernel
set_option maxRecDepth 20000 in
theorem ggX5_bit_X5_levelAt : GoodIn wsX5_bit wsX5_levelAt := goodIn_r _ [8, 3, 9, 10, 11, 12, 13, 14, 15, 16, 17, 18, 19, 20, 21, 22, 23, 24, 25, 26, 27, 28] (by decide +kernel) (by decide +kernel)
set_option maxRecDepth 20000 in
theorem gX5_bit_X5_levelAt : GoodIn wsX5_bit (wsV RX5 106 RX5 yX5_levelAt wsX5_levelAt) := goodIn_app (goodIn_of _ (by decide +kernel)) ggX5_bit_X5_levelAt
theorem dX5_bit_0 : decode cX5_bit 0 = .ok (.aload_n 0, 1) := by decide +kernel
theorem dX5_bit_1 : decode cX5_bit 1 = .ok (.iload_n 1, 1) := by decide +kernel
theorem dX5_bit_2 : decode cX5_bit 2 = .ok (.iload_n 2, 1) := by decide +kernel
theorem dX5_bit_3 : decode cX5_bit 3 = .ok (.iconst 3, 1) := by decide +kernel
theorem dX5_bit_4 : decode cX5_bit 4 = .ok (.idiv, 1) := by decide +kernel
theorem dX5_bit_5 : decode cX5_bit 5 = .ok (.iadd, 1) := by decide +kernel
theorem dX5_bit_6 : decode cX5_bit 6 = .ok (.invokevirtual 106, 3) := by decide +kernel
theorem dX5_bit_9 : decode cX5_bit 9 = .ok (.istore_n 3, 1) := by decide +kernel
theorem dX5_bit_10 : decode cX5_bit 10 = .ok (.aload_n 0, 1) := by decide +kernel
theorem dX5_bit_11 : decode cX5_bit 11 = .ok (.iload_n 1, 1) := by decide +kernel
theorem dX5_bit_12 : decode cX5_bit 12 = .ok (.iload_n 2, 1) := by decide +kernel
theorem dX5_bit_13 : decode cX5_bit 13 = .ok (.iconst 2, 1) := by decide +kernel
theorem dX5_bit_14 : decode cX5_bit 14 = .ok (.idiv, 1) := by decide +kernel
theorem dX5_bit_15 : decode cX5_bit 15 = .ok (.iadd, 1) := by decide +kernel
theorem dX5_bit_16 : decode cX5_bit 16 = .ok (.invokevirtual 106, 3) := by decide +kernel
theorem dX5_bit_19 : decode cX5_bit 19 = .ok (.istore 4, 2) := by decide +kernel
theorem dX5_bit_21 : decode cX5_bit 21 = .ok (.aload_n 0, 1) := by decide +kernel
theorem dX5_bit_22 : decode cX5_bit 22 = .ok (.iload_n 1, 1) := by decide +kernel
theorem dX5_bit_23 : decode cX5_bit 23 = .ok (.iconst 2, 1) := by decide +kernel
theorem dX5_bit_24 : decode cX5_bit 24 = .ok (.iload_n 2, 1) := by decide +kernel
theorem dX5_bit_25 : decode cX5_bit 25 = .ok (.imul, 1) := by decide +kernel
theorem dX5_bit_26 : decode cX5_bit 26 = .ok (.iconst 3, 1) := by decide +kernel
theorem dX5_bit_27 : decode cX5_bit 27 = .ok (.idiv, 1) := by decide +kernel
theorem dX5_bit_28 : decode cX5_bit 28 = .ok (.iadd, 1) := by decide +kernel
theorem dX5_bit_29 : decode cX5_bit 29 = .ok (.invokevirtual 106, 3) := by decide +kernel
theorem dX5_bit_32 : decode cX5_bit 32 = .ok (.istore 5, 2) := by decide +kernel
theorem dX5_bit_34 : decode cX5_bit 34 = .ok (.iload_n 3, 1) := by decide +kernel
theorem dX5_bit_35 : decode cX5_bit 35 = .ok (.iload 4, 2) := by decide +kernel
theorem dX5_bit_37 : decode cX5_bit 37 = .ok (.iadd, 1) := by decide +kernel
theorem dX5_bit_38 : decode cX5_bit 38 = .ok (.iload 5, 2) := by decide +kernel
theorem dX5_bit_40 : decode cX5_bit 40 = .ok (.iadd, 1) := by decide +kernel
theorem dX5_bit_41 : decode cX5_bit 41 = .ok (.istore 6, 2) := by decide +kernel
theorem dX5_bit_43 : decode cX5_bit 43 = .ok (.aload_n 0, 1) := by decide +kernel
theorem dX5_bit_44 : decode cX5_bit 44 = .ok (.getfield 40, 3) := by decide +kernel
theorem dX5_bit_47 : decode cX5_bit 47 = .ok (.aload_n 0, 1) := by decide +kernel
theorem dX5_bit_48 : decode cX5_bit 48 = .ok (.getfield 109, 3) := by decide +kernel
theorem dX5_bit_51 : decode cX5_bit 51 = .ok (.dup2, 1) := by decide +kernel
theorem dX5_bit_52 : decode cX5_bit 52 = .ok (.iaload, 1) := by decide +kernel
theorem dX5_bit_53 : decode cX5_bit 53 = .ok (.iload 6, 2) := by decide +kernel
theorem dX5_bit_55 : decode cX5_bit 55 = .ok (.iconst 3, 1) := by decide +kernel
theorem dX5_bit_56 : decode cX5_bit 56 = .ok (.irem, 1) := by decide +kernel
theorem dX5_bit_57 : decode cX5_bit 57 = .ok (.ifCond .ne 7, 3) := by decide +kernel
theorem dX5_bit_60 : decode cX5_bit 60 = .ok (.iconst 0, 1) := by decide +kernel
theorem dX5_bit_61 : decode cX5_bit 61 = .ok (.goto 4, 3) := by decide +kernel
theorem dX5_bit_64 : decode cX5_bit 64 = .ok (.iconst 1, 1) := by decide +kernel
theorem dX5_bit_65 : decode cX5_bit 65 = .ok (.iadd, 1) := by decide +kernel
theorem dX5_bit_66 : decode cX5_bit 66 = .ok (.iastore, 1) := by decide +kernel
theorem dX5_bit_67 : decode cX5_bit 67 = .ok (.aload_n 0, 1) := by decide +kernel
theorem dX5_bit_68 : decode cX5_bit 68 = .ok (.getfield 7, 3) := by decide +kernel
theorem dX5_bit_71 : decode cX5_bit 71 = .ok (.iconst 4, 1) := by decide +kernel
theorem dX5_bit_72 : decode cX5_bit 72 = .ok (.iaload, 1) := by decide +kernel
theorem dX5_bit_73 : decode cX5_bit 73 = .ok (.iconst 1, 1) := by decide +kernel
theorem dX5_bit_74 : decode cX5_bit 74 = .ok (.if_icmp .ne 8, 3) := by decide +kernel
theorem dX5_bit_77 : decode cX5_bit 77 = .ok (.iload 4, 2) := by decide +kernel
theorem dX5_bit_79 : decode cX5_bit 79 = .ok (.goto 14, 3) := by decide +kernel
theorem dX5_bit_82 : decode cX5_bit 82 = .ok (.iload 6, 2) := by decide +kernel
theorem dX5_bit_84 : decode cX5_bit 84 = .ok (.iconst 1, 1) := by decide +kernel
theorem dX5_bit_85 : decode cX5_bit 85 = .ok (.if_icmp .le 7, 3) := by decide +kernel
theorem dX5_bit_88 : decode cX5_bit 88 = .ok (.iconst 1, 1) := by decide +kernel
theorem dX5_bit_89 : decode cX5_bit 89 = .ok (.goto 4, 3) := by decide +kernel
theorem dX5_bit_92 : decode cX5_bit 92 = .ok (.iconst 0, 1) := by decide +kernel
theorem dX5_bit_93 : decode cX5_bit 93 = .ok (.ireturn, 1) := by decide +kernel
set_option maxRecDepth 20000 in
theorem ggX5_tells_X5_bit : GoodIn wsX5_tells wsX5_bit := goodIn_r _ [12, 1, 2, 3, 13, 14, 15, 11, 16, 24, 25, 26, 27, 28, 29, 30, 31, 32, 33, 34, 35, 36, 37, 38, 39, 40, 41, 42, 43] (by decide +kernel) (by decide +kernel)
set_option maxRecDepth 20000 in
theorem gX5_tells_X5_bit : GoodIn wsX5_tells (wsV RX5 112 RX5 yX5_bit wsX5_bit) := goodIn_app (goodIn_of _ (by decide +kernel)) ggX5_tells_X5_bit
set_option maxRecDepth 20000 in
theorem ggX5_tells_X5_parityOf : GoodIn wsX5_tells wsX5_parityOf := goodIn_r _ [20, 3, 21, 22, 11, 23, 24, 25, 26, 27, 28, 29, 30, 31, 32, 33, 34, 35, 36, 37, 38, 39, 40, 41, 42, 43] (by decide +kernel) (by decide +kernel)
set_option maxRecDepth 20000 in
theorem gX5_tells_X5_parityOf : GoodIn wsX5_tells (wsV RX5 67 RX5 yX5_parityOf wsX5_parityOf) := goodIn_app (goodIn_of _ (by decide +kernel)) ggX5_tells_X5_parityOf
theorem dX5_tells_0 : decode cX5_tells 0 = .ok (.aload_n 0, 1) := by decide +kernel
theorem dX5_tells_1 : decode cX5_tells 1 = .ok (.getfield 40, 3) := by decide +kernel
theorem dX5_tells_4 : decode cX5_tells 4 = .ok (.aload_n 0, 1) := by decide +kernel
theorem dX5_tells_5 : decode cX5_tells 5 = .ok (.getfield 109, 3) := by decide +kernel
theorem dX5_tells_8 : decode cX5_tells 8 = .ok (.iconst 0, 1) := by decide +kernel
theorem dX5_tells_9 : decode cX5_tells 9 = .ok (.iastore, 1) := by decide +kernel
theorem dX5_tells_10 : decode cX5_tells 10 = .ok (.aload_n 0, 1) := by decide +kernel
theorem dX5_tells_11 : decode cX5_tells 11 = .ok (.iload_n 1, 1) := by decide +kernel
theorem dX5_tells_12 : decode cX5_tells 12 = .ok (.iload_n 2, 1) := by decide +kernel
theorem dX5_tells_13 : decode cX5_tells 13 = .ok (.invokevirtual 112, 3) := by decide +kernel
theorem dX5_tells_16 : decode cX5_tells 16 = .ok (.iconst 1, 1) := by decide +kernel
theorem dX5_tells_17 : decode cX5_tells 17 = .ok (.if_icmp .ne 5, 3) := by decide +kernel
theorem dX5_tells_20 : decode cX5_tells 20 = .ok (.iconst 0, 1) := by decide +kernel
theorem dX5_tells_21 : decode cX5_tells 21 = .ok (.ireturn, 1) := by decide +kernel
theorem dX5_tells_22 : decode cX5_tells 22 = .ok (.aload_n 0, 1) := by decide +kernel
theorem dX5_tells_23 : decode cX5_tells 23 = .ok (.getfield 7, 3) := by decide +kernel
theorem dX5_tells_26 : decode cX5_tells 26 = .ok (.iconst 2, 1) := by decide +kernel
theorem dX5_tells_27 : decode cX5_tells 27 = .ok (.iaload, 1) := by decide +kernel
theorem dX5_tells_28 : decode cX5_tells 28 = .ok (.ifCond .le 8, 3) := by decide +kernel
theorem dX5_tells_31 : decode cX5_tells 31 = .ok (.bipush 11, 2) := by decide +kernel
theorem dX5_tells_33 : decode cX5_tells 33 = .ok (.goto 5, 3) := by decide +kernel
theorem dX5_tells_36 : decode cX5_tells 36 = .ok (.bipush 10, 2) := by decide +kernel
theorem dX5_tells_38 : decode cX5_tells 38 = .ok (.istore_n 3, 1) := by decide +kernel
theorem dX5_tells_39 : decode cX5_tells 39 = .ok (.iconst 0, 1) := by decide +kernel
theorem dX5_tells_40 : decode cX5_tells 40 = .ok (.istore 4, 2) := by decide +kernel
theorem dX5_tells_42 : decode cX5_tells 42 = .ok (.iconst 1, 1) := by decide +kernel
theorem dX5_tells_43 : decode cX5_tells 43 = .ok (.istore 5, 2) := by decide +kernel
theorem dX5_tells_45 : decode cX5_tells 45 = .ok (.iload 5, 2) := by decide +kernel
theorem dX5_tells_47 : decode cX5_tells 47 = .ok (.bipush 9, 2) := by decide +kernel
theorem dX5_tells_49 : decode cX5_tells 49 = .ok (.if_icmp .ge 30, 3) := by decide +kernel
theorem dX5_tells_52 : decode cX5_tells 52 = .ok (.iload 4, 2) := by decide +kernel
theorem dX5_tells_54 : decode cX5_tells 54 = .ok (.aload_n 0, 1) := by decide +kernel
theorem dX5_tells_55 : decode cX5_tells 55 = .ok (.iload_n 1, 1) := by decide +kernel
theorem dX5_tells_56 : decode cX5_tells 56 = .ok (.iload 5, 2) := by decide +kernel
theorem dX5_tells_58 : decode cX5_tells 58 = .ok (.iload_n 2, 1) := by decide +kernel
theorem dX5_tells_59 : decode cX5_tells 59 = .ok (.imul, 1) := by decide +kernel
theorem dX5_tells_60 : decode cX5_tells 60 = .ok (.iadd, 1) := by decide +kernel
theorem dX5_tells_61 : decode cX5_tells 61 = .ok (.iload_n 2, 1) := by decide +kernel
theorem dX5_tells_62 : decode cX5_tells 62 = .ok (.invokevirtual 112, 3) := by decide +kernel
theorem dX5_tells_65 : decode cX5_tells 65 = .ok (.iload 5, 2) := by decide +kernel
theorem dX5_tells_67 : decode cX5_tells 67 = .ok (.iconst 1, 1) := by decide +kernel
theorem dX5_tells_68 : decode cX5_tells 68 = .ok (.isub, 1) := by decide +kernel
theorem dX5_tells_69 : decode cX5_tells 69 = .ok (.ishl, 1) := by decide +kernel
theorem dX5_tells_70 : decode cX5_tells 70 = .ok (.ior, 1) := by decide +kernel
theorem dX5_tells_71 : decode cX5_tells 71 = .ok (.istore 4, 2) := by decide +kernel
theorem dX5_tells_73 : decode cX5_tells 73 = .ok (.iinc 5 1, 3) := by decide +kernel
theorem dX5_tells_76 : decode cX5_tells 76 = .ok (.goto (-31), 3) := by decide +kernel
theorem dX5_tells_79 : decode cX5_tells 79 = .ok (.aload_n 0, 1) := by decide +kernel
theorem dX5_tells_80 : decode cX5_tells 80 = .ok (.getfield 7, 3) := by decide +kernel
theorem dX5_tells_83 : decode cX5_tells 83 = .ok (.iconst 2, 1) := by decide +kernel
theorem dX5_tells_84 : decode cX5_tells 84 = .ok (.iaload, 1) := by decide +kernel
theorem dX5_tells_85 : decode cX5_tells 85 = .ok (.ifCond .le 17, 3) := by decide +kernel
theorem dX5_tells_88 : decode cX5_tells 88 = .ok (.aload_n 0, 1) := by decide +kernel
theorem dX5_tells_89 : decode cX5_tells 89 = .ok (.iload_n 1, 1) := by decide +kernel
theorem dX5_tells_90 : decode cX5_tells 90 = .ok (.bipush 9, 2) := by decide +kernel
theorem dX5_tells_92 : decode cX5_tells 92 = .ok (.iload_n 2, 1) := by decide +kernel
theorem dX5_tells_93 : decode cX5_tells 93 = .ok (.imul, 1) := by decide +kernel
theorem dX5_tells_94 : decode cX5_tells 94 = .ok (.iadd, 1) := by decide +kernel
theorem dX5_tells_95 : decode cX5_tells 95 = .ok (.iload_n 2, 1) := by decide +kernel
theorem dX5_tells_96 : decode cX5_tells 96 = .ok (.invokevirtual 112, 3) := by decide +kernel
theorem dX5_tells_99 : decode cX5_tells 99 = .ok (.goto 4, 3) := by decide +kernel
theorem dX5_tells_102 : decode cX5_tells 102 = .ok (.iconst 0, 1) := by decide +kernel
theorem dX5_tells_103 : decode cX5_tells 103 = .ok (.istore 5, 2) := by decide +kernel
theorem dX5_tells_105 : decode cX5_tells 105 = .ok (.aload_n 0, 1) := by decide +kernel
theorem dX5_tells_106 : decode cX5_tells 106 = .ok (.iload_n 1, 1) := by decide +kernel
theorem dX5_tells_107 : decode cX5_tells 107 = .ok (.iload_n 3, 1) := by decide +kernel
theorem dX5_tells_108 : decode cX5_tells 108 = .ok (.iconst 1, 1) := by decide +kernel
theorem dX5_tells_109 : decode cX5_tells 109 = .ok (.isub, 1) := by decide +kernel
theorem dX5_tells_110 : decode cX5_tells 110 = .ok (.iload_n 2, 1) := by decide +kernel
theorem dX5_tells_111 : decode cX5_tells 111 = .ok (.imul, 1) := by decide +kernel
theorem dX5_tells_112 : decode cX5_tells 112 = .ok (.iadd, 1) := by decide +kernel
theorem dX5_tells_113 : decode cX5_tells 113 = .ok (.iload_n 2, 1) := by decide +kernel
theorem dX5_tells_114 : decode cX5_tells 114 = .ok (.invokevirtual 112, 3) := by decide +kernel
theorem dX5_tells_117 : decode cX5_tells 117 = .ok (.istore 6, 2) := by decide +kernel
theorem dX5_tells_119 : decode cX5_tells 119 = .ok (.aload_n 0, 1) := by decide +kernel
theorem dX5_tells_120 : decode cX5_tells 120 = .ok (.getfield 7, 3) := by decide +kernel
theorem dX5_tells_123 : decode cX5_tells 123 = .ok (.iconst 2, 1) := by decide +kernel
theorem dX5_tells_124 : decode cX5_tells 124 = .ok (.iaload, 1) := by decide +kernel
theorem dX5_tells_125 : decode cX5_tells 125 = .ok (.ifCond .le 18, 3) := by decide +kernel
theorem dX5_tells_128 : decode cX5_tells 128 = .ok (.iload 5, 2) := by decide +kernel
theorem dX5_tells_130 : decode cX5_tells 130 = .ok (.aload_n 0, 1) := by decide +kernel
theorem dX5_tells_131 : decode cX5_tells 131 = .ok (.iload 4, 2) := by decide +kernel
theorem dX5_tells_133 : decode cX5_tells 133 = .ok (.invokevirtual 67, 3) := by decide +kernel
theorem dX5_tells_136 : decode cX5_tells 136 = .ok (.if_icmp .eq 7, 3) := by decide +kernel
theorem dX5_tells_139 : decode cX5_tells 139 = .ok (.iconst 1, 1) := by decide +kernel
theorem dX5_tells_140 : decode cX5_tells 140 = .ok (.goto 4, 3) := by decide +kernel
theorem dX5_tells_143 : decode cX5_tells 143 = .ok (.iconst 0, 1) := by decide +kernel
theorem dX5_tells_144 : decode cX5_tells 144 = .ok (.istore 7, 2) := by decide +kernel
theorem dX5_tells_146 : decode cX5_tells 146 = .ok (.iload 4, 2) := by decide +kernel
theorem dX5_tells_148 : decode cX5_tells 148 = .ok (.ifCond .ne 17, 3) := by decide +kernel
theorem dX5_tells_151 : decode cX5_tells 151 = .ok (.iload 5, 2) := by decide +kernel
theorem dX5_tells_153 : decode cX5_tells 153 = .ok (.ifCond .ne 12, 3) := by decide +kernel
theorem dX5_tells_156 : decode cX5_tells 156 = .ok (.iload 6, 2) := by decide +kernel
theorem dX5_tells_158 : decode cX5_tells 158 = .ok (.ifCond .ne 7, 3) := by decide +kernel
theorem dX5_tells_161 : decode cX5_tells 161 = .ok (.iconst 1, 1) := by decide +kernel
theorem dX5_tells_162 : decode cX5_tells 162 = .ok (.goto 4, 3) := by decide +kernel
theorem dX5_tells_165 : decode cX5_tells 165 = .ok (.iconst 0, 1) := by decide +kernel
theorem dX5_tells_166 : decode cX5_tells 166 = .ok (.istore 8, 2) := by decide +kernel
theorem dX5_tells_168 : decode cX5_tells 168 = .ok (.aload_n 0, 1) := by decide +kernel
theorem dX5_tells_169 : decode cX5_tells 169 = .ok (.getfield 31, 3) := by decide +kernel
theorem dX5_tells_172 : decode cX5_tells 172 = .ok (.aload_n 0, 1) := by decide +kernel
theorem dX5_tells_173 : decode cX5_tells 173 = .ok (.getfield 109, 3) := by decide +kernel
theorem dX5_tells_176 : decode cX5_tells 176 = .ok (.iload 8, 2) := by decide +kernel
theorem dX5_tells_178 : decode cX5_tells 178 = .ok (.ifCond .eq 7, 3) := by decide +kernel
theorem dX5_tells_181 : decode cX5_tells 181 = .ok (.iconst 3, 1) := by decide +kernel
theorem dX5_tells_182 : decode cX5_tells 182 = .ok (.goto 22, 3) := by decide +kernel
theorem dX5_tells_185 : decode cX5_tells 185 = .ok (.iload 6, 2) := by decide +kernel
theorem dX5_tells_187 : decode cX5_tells 187 = .ok (.ifCond .ne 7, 3) := by decide +kernel
theorem dX5_tells_190 : decode cX5_tells 190 = .ok (.iconst 2, 1) := by decide +kernel
theorem dX5_tells_191 : decode cX5_tells 191 = .ok (.goto 13, 3) := by decide +kernel
theorem dX5_tells_194 : decode cX5_tells 194 = .ok (.iload 7, 2) := by decide +kernel
theorem dX5_tells_196 : decode cX5_tells 196 = .ok (.ifCond .eq 7, 3) := by decide +kernel
theorem dX5_tells_199 : decode cX5_tells 199 = .ok (.iconst 1, 1) := by decide +kernel
theorem dX5_tells_200 : decode cX5_tells 200 = .ok (.goto 4, 3) := by decide +kernel
theorem dX5_tells_203 : decode cX5_tells 203 = .ok (.iconst 0, 1) := by decide +kernel
theorem dX5_tells_204 : decode cX5_tells 204 = .ok (.iastore, 1) := by decide +kernel
theorem dX5_tells_205 : decode cX5_tells 205 = .ok (.aload_n 0, 1) := by decide +kernel
theorem dX5_tells_206 : decode cX5_tells 206 = .ok (.getfield 34, 3) := by decide +kernel
theorem dX5_tells_209 : decode cX5_tells 209 = .ok (.aload_n 0, 1) := by decide +kernel
theorem dX5_tells_210 : decode cX5_tells 210 = .ok (.getfield 109, 3) := by decide +kernel
theorem dX5_tells_213 : decode cX5_tells 213 = .ok (.iload 4, 2) := by decide +kernel
theorem dX5_tells_215 : decode cX5_tells 215 = .ok (.iastore, 1) := by decide +kernel
theorem dX5_tells_216 : decode cX5_tells 216 = .ok (.aload_n 0, 1) := by decide +kernel
theorem dX5_tells_217 : decode cX5_tells 217 = .ok (.getfield 37, 3) := by decide +kernel
theorem dX5_tells_220 : decode cX5_tells 220 = .ok (.aload_n 0, 1) := by decide +kernel
theorem dX5_tells_221 : decode cX5_tells 221 = .ok (.getfield 109, 3) := by decide +kernel
theorem dX5_tells_224 : decode cX5_tells 224 = .ok (.iload_n 1, 1) := by decide +kernel
theorem dX5_tells_225 : decode cX5_tells 225 = .ok (.iastore, 1) := by decide +kernel
theorem dX5_tells_226 : decode cX5_tells 226 = .ok (.aload_n 0, 1) := by decide +kernel
theorem dX5_tells_227 : decode cX5_tells 227 = .ok (.getfield 43, 3) := by decide +kernel
theorem dX5_tells_230 : decode cX5_tells 230 = .ok (.aload_n 0, 1) := by decide +kernel
theorem dX5_tells_231 : decode cX5_tells 231 = .ok (.getfield 109, 3) := by decide +kernel
theorem dX5_tells_234 : decode cX5_tells 234 = .ok (.iload_n 1, 1) := by decide +kernel
theorem dX5_tells_235 : decode cX5_tells 235 = .ok (.iload_n 3, 1) := by decide +kernel
theorem dX5_tells_236 : decode cX5_tells 236 = .ok (.iconst 1, 1) := by decide +kernel
theorem dX5_tells_237 : decode cX5_tells 237 = .ok (.isub, 1) := by decide +kernel
theorem dX5_tells_238 : decode cX5_tells 238 = .ok (.iload_n 2, 1) := by decide +kernel
theorem dX5_tells_239 : decode cX5_tells 239 = .ok (.imul, 1) := by decide +kernel
theorem dX5_tells_240 : decode cX5_tells 240 = .ok (.iadd, 1) := by decide +kernel
theorem dX5_tells_241 : decode cX5_tells 241 = .ok (.iconst 2, 1) := by decide +kernel
theorem dX5_tells_242 : decode cX5_tells 242 = .ok (.iload_n 2, 1) := by decide +kernel
theorem dX5_tells_243 : decode cX5_tells 243 = .ok (.imul, 1) := by decide +kernel
theorem dX5_tells_244 : decode cX5_tells 244 = .ok (.iconst 3, 1) := by decide +kernel
theorem dX5_tells_245 : decode cX5_tells 245 = .ok (.idiv, 1) := by decide +kernel
theorem dX5_tells_246 : decode cX5_tells 246 = .ok (.iadd, 1) := by decide +kernel
theorem dX5_tells_247 : decode cX5_tells 247 = .ok (.iastore, 1) := by decide +kernel
theorem dX5_tells_248 : decode cX5_tells 248 = .ok (.iconst 1, 1) := by decide +kernel
theorem dX5_tells_249 : decode cX5_tells 249 = .ok (.ireturn, 1) := by decide +kernel
set_option maxRecDepth 20000 in
theorem ggX5_receive_X5_isFall : GoodIn wsX5_receive wsX5_isFall := goodIn_r _ [12, 13, 14, 15, 11, 16, 4, 34, 35, 36, 37, 38, 39, 40, 41, 42, 43, 44, 45, 46, 47, 48, 49, 50, 51, 52, 53] (by decide +kernel) (by decide +kernel)
set_option maxRecDepth 20000 in
theorem gX5_receive_X5_isFall : GoodIn wsX5_receive (wsV RX5 121 RX5 yX5_isFall wsX5_isFall) := goodIn_app (goodIn_of _ (by decide +kernel)) ggX5_receive_X5_isFall
set_option maxRecDepth 20000 in
theorem ggX5_receive_X5_tells : GoodIn wsX5_receive wsX5_tells := goodIn_r _ [20, 7, 1, 4, 6, 21, 22, 5, 23, 24, 25, 11, 26, 13, 14, 15, 16, 27, 28, 29, 30, 31, 32, 33, 34, 35, 36, 37, 38, 39, 40, 41, 42, 43, 44, 45, 46, 47, 48, 49, 50, 51, 52, 53] (by decide +kernel) (by decide +kernel)
set_option maxRecDepth 20000 in
theorem gX5_receive_X5_tells : GoodIn wsX5_receive (wsV RX5 124 RX5 yX5_tells wsX5_tells) := goodIn_app (goodIn_of _ (by decide +kernel)) ggX5_receive_X5_tells
set_option maxRecDepth 20000 in
theorem ggX5_receive_X5_levelAt : GoodIn wsX5_receive wsX5_levelAt := goodIn_r _ [16, 4, 34, 35, 36, 37, 38, 39, 40, 41, 42, 43, 44, 45, 46, 47, 48, 49, 50, 51, 52, 53] (by decide +kernel) (by decide +kernel)
set_option maxRecDepth 20000 in
theorem gX5_receive_X5_levelAt : GoodIn wsX5_receive (wsV RX5 106 RX5 yX5_levelAt wsX5_levelAt) := goodIn_app (goodIn_of _ (by decide +kernel)) ggX5_receive_X5_levelAt
theorem dX5_receive_0 : decode cX5_receive 0 = .ok (.aload_n 0, 1) := by decide +kernel
theorem dX5_receive_1 : decode cX5_receive 1 = .ok (.iconst 0, 1) := by decide +kernel
theorem dX5_receive_2 : decode cX5_receive 2 = .ok (.putfield 109, 3) := by decide +kernel
theorem dX5_receive_5 : decode cX5_receive 5 = .ok (.aload_n 0, 1) := by decide +kernel
theorem dX5_receive_6 : decode cX5_receive 6 = .ok (.iconst 0, 1) := by decide +kernel
theorem dX5_receive_7 : decode cX5_receive 7 = .ok (.putfield 115, 3) := by decide +kernel
theorem dX5_receive_10 : decode cX5_receive 10 = .ok (.aload_n 0, 1) := by decide +kernel
theorem dX5_receive_11 : decode cX5_receive 11 = .ok (.iconst 0, 1) := by decide +kernel
theorem dX5_receive_12 : decode cX5_receive 12 = .ok (.putfield 118, 3) := by decide +kernel
theorem dX5_receive_15 : decode cX5_receive 15 = .ok (.iconst 0, 1) := by decide +kernel
theorem dX5_receive_16 : decode cX5_receive 16 = .ok (.istore_n 2, 1) := by decide +kernel
theorem dX5_receive_17 : decode cX5_receive 17 = .ok (.iload_n 2, 1) := by decide +kernel
theorem dX5_receive_18 : decode cX5_receive 18 = .ok (.aload_n 0, 1) := by decide +kernel
theorem dX5_receive_19 : decode cX5_receive 19 = .ok (.getfield 7, 3) := by decide +kernel
theorem dX5_receive_22 : decode cX5_receive 22 = .ok (.iconst 5, 1) := by decide +kernel
theorem dX5_receive_23 : decode cX5_receive 23 = .ok (.iaload, 1) := by decide +kernel
theorem dX5_receive_24 : decode cX5_receive 24 = .ok (.if_icmp .ge 119, 3) := by decide +kernel
theorem dX5_receive_27 : decode cX5_receive 27 = .ok (.aload_n 0, 1) := by decide +kernel
theorem dX5_receive_28 : decode cX5_receive 28 = .ok (.iload_n 2, 1) := by decide +kernel
theorem dX5_receive_29 : decode cX5_receive 29 = .ok (.invokevirtual 121, 3) := by decide +kernel
theorem dX5_receive_32 : decode cX5_receive 32 = .ok (.ifCond .ne 9, 3) := by decide +kernel
theorem dX5_receive_35 : decode cX5_receive 35 = .ok (.iinc 2 1, 3) := by decide +kernel
theorem dX5_receive_38 : decode cX5_receive 38 = .ok (.goto (-21), 3) := by decide +kernel
theorem dX5_receive_41 : decode cX5_receive 41 = .ok (.aload_n 0, 1) := by decide +kernel
theorem dX5_receive_42 : decode cX5_receive 42 = .ok (.iload_n 2, 1) := by decide +kernel
theorem dX5_receive_43 : decode cX5_receive 43 = .ok (.iload_n 1, 1) := by decide +kernel
theorem dX5_receive_44 : decode cX5_receive 44 = .ok (.invokevirtual 124, 3) := by decide +kernel
theorem dX5_receive_47 : decode cX5_receive 47 = .ok (.ifCond .eq 73, 3) := by decide +kernel
theorem dX5_receive_50 : decode cX5_receive 50 = .ok (.aload_n 0, 1) := by decide +kernel
theorem dX5_receive_51 : decode cX5_receive 51 = .ok (.getfield 43, 3) := by decide +kernel
theorem dX5_receive_54 : decode cX5_receive 54 = .ok (.aload_n 0, 1) := by decide +kernel
theorem dX5_receive_55 : decode cX5_receive 55 = .ok (.getfield 109, 3) := by decide +kernel
theorem dX5_receive_58 : decode cX5_receive 58 = .ok (.iaload, 1) := by decide +kernel
theorem dX5_receive_59 : decode cX5_receive 59 = .ok (.iconst 1, 1) := by decide +kernel
theorem dX5_receive_60 : decode cX5_receive 60 = .ok (.iadd, 1) := by decide +kernel
theorem dX5_receive_61 : decode cX5_receive 61 = .ok (.istore_n 2, 1) := by decide +kernel
theorem dX5_receive_62 : decode cX5_receive 62 = .ok (.aload_n 0, 1) := by decide +kernel
theorem dX5_receive_63 : decode cX5_receive 63 = .ok (.getfield 31, 3) := by decide +kernel
theorem dX5_receive_66 : decode cX5_receive 66 = .ok (.aload_n 0, 1) := by decide +kernel
theorem dX5_receive_67 : decode cX5_receive 67 = .ok (.getfield 109, 3) := by decide +kernel
theorem dX5_receive_70 : decode cX5_receive 70 = .ok (.iaload, 1) := by decide +kernel
theorem dX5_receive_71 : decode cX5_receive 71 = .ok (.iconst 3, 1) := by decide +kernel
theorem dX5_receive_72 : decode cX5_receive 72 = .ok (.if_icmp .ne 17, 3) := by decide +kernel
theorem dX5_receive_75 : decode cX5_receive 75 = .ok (.aload_n 0, 1) := by decide +kernel
theorem dX5_receive_76 : decode cX5_receive 76 = .ok (.iload_n 2, 1) := by decide +kernel
theorem dX5_receive_77 : decode cX5_receive 77 = .ok (.invokevirtual 106, 3) := by decide +kernel
theorem dX5_receive_80 : decode cX5_receive 80 = .ok (.ifCond .ne 9, 3) := by decide +kernel
theorem dX5_receive_83 : decode cX5_receive 83 = .ok (.iinc 2 1, 3) := by decide +kernel
theorem dX5_receive_86 : decode cX5_receive 86 = .ok (.goto (-24), 3) := by decide +kernel
theorem dX5_receive_89 : decode cX5_receive 89 = .ok (.aload_n 0, 1) := by decide +kernel
theorem dX5_receive_90 : decode cX5_receive 90 = .ok (.dup, 1) := by decide +kernel
theorem dX5_receive_91 : decode cX5_receive 91 = .ok (.getfield 118, 3) := by decide +kernel
theorem dX5_receive_94 : decode cX5_receive 94 = .ok (.aload_n 0, 1) := by decide +kernel
theorem dX5_receive_95 : decode cX5_receive 95 = .ok (.getfield 40, 3) := by decide +kernel
theorem dX5_receive_98 : decode cX5_receive 98 = .ok (.aload_n 0, 1) := by decide +kernel
theorem dX5_receive_99 : decode cX5_receive 99 = .ok (.getfield 109, 3) := by decide +kernel
theorem dX5_receive_102 : decode cX5_receive 102 = .ok (.iaload, 1) := by decide +kernel
theorem dX5_receive_103 : decode cX5_receive 103 = .ok (.iadd, 1) := by decide +kernel
theorem dX5_receive_104 : decode cX5_receive 104 = .ok (.putfield 118, 3) := by decide +kernel
theorem dX5_receive_107 : decode cX5_receive 107 = .ok (.aload_n 0, 1) := by decide +kernel
theorem dX5_receive_108 : decode cX5_receive 108 = .ok (.dup, 1) := by decide +kernel
theorem dX5_receive_109 : decode cX5_receive 109 = .ok (.getfield 109, 3) := by decide +kernel
theorem dX5_receive_112 : decode cX5_receive 112 = .ok (.iconst 1, 1) := by decide +kernel
theorem dX5_receive_113 : decode cX5_receive 113 = .ok (.iadd, 1) := by decide +kernel
theorem dX5_receive_114 : decode cX5_receive 114 = .ok (.putfield 109, 3) := by decide +kernel
theorem dX5_receive_117 : decode cX5_receive 117 = .ok (.goto (-100), 3) := by decide +kernel
theorem dX5_receive_120 : decode cX5_receive 120 = .ok (.aload_n 0, 1) := by decide +kernel
theorem dX5_receive_121 : decode cX5_receive 121 = .ok (.dup, 1) := by decide +kernel
theorem dX5_receive_122 : decode cX5_receive 122 = .ok (.getfield 115, 3) := by decide +kernel
theorem dX5_receive_125 : decode cX5_receive 125 = .ok (.iconst 1, 1) := by decide +kernel
theorem dX5_receive_126 : decode cX5_receive 126 = .ok (.iadd, 1) := by decide +kernel
theorem dX5_receive_127 : decode cX5_receive 127 = .ok (.putfield 115, 3) := by decide +kernel
theorem dX5_receive_130 : decode cX5_receive 130 = .ok (.iload_n 2, 1) := by decide +kernel
theorem dX5_receive_131 : decode cX5_receive 131 = .ok (.iconst 2, 1) := by decide +kernel
theorem dX5_receive_132 : decode cX5_receive 132 = .ok (.iload_n 1, 1) := by decide +kernel
theorem dX5_receive_133 : decode cX5_receive 133 = .ok (.imul, 1) := by decide +kernel
theorem dX5_receive_134 : decode cX5_receive 134 = .ok (.iconst 3, 1) := by decide +kernel
theorem dX5_receive_135 : decode cX5_receive 135 = .ok (.idiv, 1) := by decide +kernel
theorem dX5_receive_136 : decode cX5_receive 136 = .ok (.iconst 1, 1) := by decide +kernel
theorem dX5_receive_137 : decode cX5_receive 137 = .ok (.iadd, 1) := by decide +kernel
theorem dX5_receive_138 : decode cX5_receive 138 = .ok (.iadd, 1) := by decide +kernel
theorem dX5_receive_139 : decode cX5_receive 139 = .ok (.istore_n 2, 1) := by decide +kernel
theorem dX5_receive_140 : decode cX5_receive 140 = .ok (.goto (-123), 3) := by decide +kernel
theorem dX5_receive_143 : decode cX5_receive 143 = .ok (.return_, 1) := by decide +kernel
theorem dX5_ofKind_0 : decode cX5_ofKind 0 = .ok (.iconst 0, 1) := by decide +kernel
theorem dX5_ofKind_1 : decode cX5_ofKind 1 = .ok (.istore_n 2, 1) := by decide +kernel
theorem dX5_ofKind_2 : decode cX5_ofKind 2 = .ok (.iconst 0, 1) := by decide +kernel
theorem dX5_ofKind_3 : decode cX5_ofKind 3 = .ok (.istore_n 3, 1) := by decide +kernel
theorem dX5_ofKind_4 : decode cX5_ofKind 4 = .ok (.iload_n 3, 1) := by decide +kernel
theorem dX5_ofKind_5 : decode cX5_ofKind 5 = .ok (.aload_n 0, 1) := by decide +kernel
theorem dX5_ofKind_6 : decode cX5_ofKind 6 = .ok (.getfield 109, 3) := by decide +kernel
theorem dX5_ofKind_9 : decode cX5_ofKind 9 = .ok (.if_icmp .ge 27, 3) := by decide +kernel
theorem dX5_ofKind_12 : decode cX5_ofKind 12 = .ok (.iload_n 2, 1) := by decide +kernel
theorem dX5_ofKind_13 : decode cX5_ofKind 13 = .ok (.aload_n 0, 1) := by decide +kernel
theorem dX5_ofKind_14 : decode cX5_ofKind 14 = .ok (.getfield 31, 3) := by decide +kernel
theorem dX5_ofKind_17 : decode cX5_ofKind 17 = .ok (.iload_n 3, 1) := by decide +kernel
theorem dX5_ofKind_18 : decode cX5_ofKind 18 = .ok (.iaload, 1) := by decide +kernel
theorem dX5_ofKind_19 : decode cX5_ofKind 19 = .ok (.iload_n 1, 1) := by decide +kernel
theorem dX5_ofKind_20 : decode cX5_ofKind 20 = .ok (.if_icmp .ne 7, 3) := by decide +kernel
theorem dX5_ofKind_23 : decode cX5_ofKind 23 = .ok (.iconst 1, 1) := by decide +kernel
theorem dX5_ofKind_24 : decode cX5_ofKind 24 = .ok (.goto 4, 3) := by decide +kernel
theorem dX5_ofKind_27 : decode cX5_ofKind 27 = .ok (.iconst 0, 1) := by decide +kernel
theorem dX5_ofKind_28 : decode cX5_ofKind 28 = .ok (.iadd, 1) := by decide +kernel
theorem dX5_ofKind_29 : decode cX5_ofKind 29 = .ok (.istore_n 2, 1) := by decide +kernel
theorem dX5_ofKind_30 : decode cX5_ofKind 30 = .ok (.iinc 3 1, 3) := by decide +kernel
theorem dX5_ofKind_33 : decode cX5_ofKind 33 = .ok (.goto (-29), 3) := by decide +kernel
theorem dX5_ofKind_36 : decode cX5_ofKind 36 = .ok (.iload_n 2, 1) := by decide +kernel
theorem dX5_ofKind_37 : decode cX5_ofKind 37 = .ok (.ireturn, 1) := by decide +kernel
theorem dX5_isWell_0 : decode cX5_isWell 0 = .ok (.aload_n 0, 1) := by decide +kernel
theorem dX5_isWell_1 : decode cX5_isWell 1 = .ok (.getfield 109, 3) := by decide +kernel
theorem dX5_isWell_4 : decode cX5_isWell 4 = .ok (.aload_n 0, 1) := by decide +kernel
theorem dX5_isWell_5 : decode cX5_isWell 5 = .ok (.getfield 7, 3) := by decide +kernel
theorem dX5_isWell_8 : decode cX5_isWell 8 = .ok (.bipush 6, 2) := by decide +kernel
theorem dX5_isWell_10 : decode cX5_isWell 10 = .ok (.iaload, 1) := by decide +kernel
theorem dX5_isWell_11 : decode cX5_isWell 11 = .ok (.if_icmp .ne 7, 3) := by decide +kernel
theorem dX5_isWell_14 : decode cX5_isWell 14 = .ok (.iconst 1, 1) := by decide +kernel
theorem dX5_isWell_15 : decode cX5_isWell 15 = .ok (.goto 4, 3) := by decide +kernel
theorem dX5_isWell_18 : decode cX5_isWell 18 = .ok (.iconst 0, 1) := by decide +kernel
theorem dX5_isWell_19 : decode cX5_isWell 19 = .ok (.istore_n 1, 1) := by decide +kernel
theorem dX5_isWell_20 : decode cX5_isWell 20 = .ok (.iconst 0, 1) := by decide +kernel
theorem dX5_isWell_21 : decode cX5_isWell 21 = .ok (.istore_n 2, 1) := by decide +kernel
theorem dX5_isWell_22 : decode cX5_isWell 22 = .ok (.iload_n 2, 1) := by decide +kernel
theorem dX5_isWell_23 : decode cX5_isWell 23 = .ok (.aload_n 0, 1) := by decide +kernel
theorem dX5_isWell_24 : decode cX5_isWell 24 = .ok (.getfield 109, 3) := by decide +kernel
theorem dX5_isWell_27 : decode cX5_isWell 27 = .ok (.if_icmp .ge 46, 3) := by decide +kernel
theorem dX5_isWell_30 : decode cX5_isWell 30 = .ok (.iload_n 1, 1) := by decide +kernel
theorem dX5_isWell_31 : decode cX5_isWell 31 = .ok (.ifCond .eq 42, 3) := by decide +kernel
theorem dX5_isWell_34 : decode cX5_isWell 34 = .ok (.aload_n 0, 1) := by decide +kernel
theorem dX5_isWell_35 : decode cX5_isWell 35 = .ok (.getfield 31, 3) := by decide +kernel
theorem dX5_isWell_38 : decode cX5_isWell 38 = .ok (.iload_n 2, 1) := by decide +kernel
theorem dX5_isWell_39 : decode cX5_isWell 39 = .ok (.iaload, 1) := by decide +kernel
theorem dX5_isWell_40 : decode cX5_isWell 40 = .ok (.ifCond .ne 25, 3) := by decide +kernel
theorem dX5_isWell_43 : decode cX5_isWell 43 = .ok (.aload_n 0, 1) := by decide +kernel
theorem dX5_isWell_44 : decode cX5_isWell 44 = .ok (.getfield 34, 3) := by decide +kernel
theorem dX5_isWell_47 : decode cX5_isWell 47 = .ok (.iload_n 2, 1) := by decide +kernel
theorem dX5_isWell_48 : decode cX5_isWell 48 = .ok (.iaload, 1) := by decide +kernel
theorem dX5_isWell_49 : decode cX5_isWell 49 = .ok (.aload_n 0, 1) := by decide +kernel
theorem dX5_isWell_50 : decode cX5_isWell 50 = .ok (.getfield 7, 3) := by decide +kernel
theorem dX5_isWell_53 : decode cX5_isWell 53 = .ok (.bipush 7, 2) := by decide +kernel
theorem dX5_isWell_55 : decode cX5_isWell 55 = .ok (.iload_n 2, 1) := by decide +kernel
theorem dX5_isWell_56 : decode cX5_isWell 56 = .ok (.iadd, 1) := by decide +kernel
theorem dX5_isWell_57 : decode cX5_isWell 57 = .ok (.iaload, 1) := by decide +kernel
theorem dX5_isWell_58 : decode cX5_isWell 58 = .ok (.if_icmp .ne 7, 3) := by decide +kernel
theorem dX5_isWell_61 : decode cX5_isWell 61 = .ok (.iconst 1, 1) := by decide +kernel
theorem dX5_isWell_62 : decode cX5_isWell 62 = .ok (.goto 4, 3) := by decide +kernel
theorem dX5_isWell_65 : decode cX5_isWell 65 = .ok (.iconst 0, 1) := by decide +kernel
theorem dX5_isWell_66 : decode cX5_isWell 66 = .ok (.istore_n 1, 1) := by decide +kernel
theorem dX5_isWell_67 : decode cX5_isWell 67 = .ok (.iinc 2 1, 3) := by decide +kernel
theorem dX5_isWell_70 : decode cX5_isWell 70 = .ok (.goto (-48), 3) := by decide +kernel
theorem dX5_isWell_73 : decode cX5_isWell 73 = .ok (.iload_n 1, 1) := by decide +kernel
theorem dX5_isWell_74 : decode cX5_isWell 74 = .ok (.ireturn, 1) := by decide +kernel
set_option maxRecDepth 20000 in
theorem ggX5_isWellWith_X5_receive : GoodIn wsX5_isWellWith wsX5_receive := goodIn_r _ [5, 6, 7, 8, 9, 10, 11, 12, 13, 14, 15, 4, 16, 17, 18, 19, 20, 21, 22, 23, 24, 25, 26, 27, 28, 29, 30, 31, 32, 33, 34, 35, 36, 37, 42, 43, 44, 45, 46, 47, 48, 49, 50, 51, 52, 53, 54, 55, 56, 57, 58, 59, 60, 61] (by decide +kernel) (by decide +kernel)
set_option maxRecDepth 20000 in
theorem gX5_isWellWith_X5_receive : GoodIn wsX5_isWellWith (wsV RX5 127 RX5 yX5_receive wsX5_receive) := goodIn_app (goodIn_of _ (by decide +kernel)) ggX5_isWellWith_X5_receive
set_option maxRecDepth 20000 in
theorem ggX5_isWellWith_X5_isWell : GoodIn wsX5_isWellWith wsX5_isWell := goodIn_r _ [41, 6, 9, 11, 25, 42, 43, 44, 45, 46, 47, 48, 49, 50, 51, 52, 53, 54, 55, 56, 57, 58, 59, 60, 61] (by decide +kernel) (by decide +kernel)
set_option maxRecDepth 20000 in
theorem gX5_isWellWith_X5_isWell : GoodIn wsX5_isWellWith (wsV RX5 131 RX5 yX5_isWell wsX5_isWell) := goodIn_app (goodIn_of _ (by decide +kernel)) ggX5_isWellWith_X5_isWell
theorem dX5_isWellWith_0 : decode cX5_isWellWith 0 = .ok (.aload_n 0, 1) := by decide +kernel
theorem dX5_isWellWith_1 : decode cX5_isWellWith 1 = .ok (.iload_n 1, 1) := by decide +kernel
theorem dX5_isWellWith_2 : decode cX5_isWellWith 2 = .ok (.invokevirtual 127, 3) := by decide +kernel
theorem dX5_isWellWith_5 : decode cX5_isWellWith 5 = .ok (.aload_n 0, 1) := by decide +kernel
theorem dX5_isWellWith_6 : decode cX5_isWellWith 6 = .ok (.invokevirtual 131, 3) := by decide +kernel
theorem dX5_isWellWith_9 : decode cX5_isWellWith 9 = .ok (.ireturn, 1) := by decide +kernel
set_option maxRecDepth 20000 in
theorem ggX5_fallOf_X5_isFall : GoodIn wsX5_fallOf wsX5_isFall := goodIn_r _ [6, 7, 8, 9, 5, 10, 1, 11, 12, 13, 14, 15, 16, 17, 18, 19, 20, 21, 22, 23, 24, 25, 26, 27, 28, 29, 30] (by decide +kernel) (by decide +kernel)
set_option maxRecDepth 20000 in
theorem gX5_fallOf_X5_isFall : GoodIn wsX5_fallOf (wsV RX5 121 RX5 yX5_isFall wsX5_isFall) := goodIn_app (goodIn_of _ (by decide +kernel)) ggX5_fallOf_X5_isFall
theorem dX5_fallOf_0 : decode cX5_fallOf 0 = .ok (.iload_n 1, 1) := by decide +kernel
theorem dX5_fallOf_1 : decode cX5_fallOf 1 = .ok (.istore_n 2, 1) := by decide +kernel
theorem dX5_fallOf_2 : decode cX5_fallOf 2 = .ok (.iconst 0, 1) := by decide +kernel
theorem dX5_fallOf_3 : decode cX5_fallOf 3 = .ok (.istore_n 3, 1) := by decide +kernel
theorem dX5_fallOf_4 : decode cX5_fallOf 4 = .ok (.iload_n 3, 1) := by decide +kernel
theorem dX5_fallOf_5 : decode cX5_fallOf 5 = .ok (.aload_n 0, 1) := by decide +kernel
theorem dX5_fallOf_6 : decode cX5_fallOf 6 = .ok (.getfield 7, 3) := by decide +kernel
theorem dX5_fallOf_9 : decode cX5_fallOf 9 = .ok (.iconst 5, 1) := by decide +kernel
theorem dX5_fallOf_10 : decode cX5_fallOf 10 = .ok (.iaload, 1) := by decide +kernel
theorem dX5_fallOf_11 : decode cX5_fallOf 11 = .ok (.if_icmp .ge 26, 3) := by decide +kernel
theorem dX5_fallOf_14 : decode cX5_fallOf 14 = .ok (.aload_n 0, 1) := by decide +kernel
theorem dX5_fallOf_15 : decode cX5_fallOf 15 = .ok (.iload_n 3, 1) := by decide +kernel
theorem dX5_fallOf_16 : decode cX5_fallOf 16 = .ok (.invokevirtual 121, 3) := by decide +kernel
theorem dX5_fallOf_19 : decode cX5_fallOf 19 = .ok (.ifCond .eq 12, 3) := by decide +kernel
theorem dX5_fallOf_22 : decode cX5_fallOf 22 = .ok (.iload_n 2, 1) := by decide +kernel
theorem dX5_fallOf_23 : decode cX5_fallOf 23 = .ok (.ifCond .ne 5, 3) := by decide +kernel
theorem dX5_fallOf_26 : decode cX5_fallOf 26 = .ok (.iload_n 3, 1) := by decide +kernel
theorem dX5_fallOf_27 : decode cX5_fallOf 27 = .ok (.ireturn, 1) := by decide +kernel
theorem dX5_fallOf_28 : decode cX5_fallOf 28 = .ok (.iinc 2 (-1), 3) := by decide +kernel
theorem dX5_fallOf_31 : decode cX5_fallOf 31 = .ok (.iinc 3 1, 3) := by decide +kernel
theorem dX5_fallOf_34 : decode cX5_fallOf 34 = .ok (.goto (-30), 3) := by decide +kernel
theorem dX5_fallOf_37 : decode cX5_fallOf 37 = .ok (.bipush (-5), 2) := by decide +kernel
theorem dX5_fallOf_39 : decode cX5_fallOf 39 = .ok (.ireturn, 1) := by decide +kernel
set_option maxRecDepth 20000 in
theorem ggX5_learned_X5_fallOf : GoodIn wsX5_learned wsX5_fallOf := goodIn_r _ [5, 6, 7, 8, 9, 4, 10, 11, 12, 13, 14, 18, 19, 20, 21, 22, 23, 24, 25, 26, 27, 28, 29, 30, 31, 32, 33, 34, 35, 36, 37] (by decide +kernel) (by decide +kernel)
set_option maxRecDepth 20000 in
theorem gX5_learned_X5_fallOf : GoodIn wsX5_learned (wsV RX5 135 RX5 yX5_fallOf wsX5_fallOf) := goodIn_app (goodIn_of _ (by decide +kernel)) ggX5_learned_X5_fallOf
set_option maxRecDepth 20000 in
theorem ggX5_learned_X5_within : GoodIn wsX5_learned wsX5_within := goodIn_r _ [17] (by decide +kernel) (by decide +kernel)
set_option maxRecDepth 20000 in
theorem gX5_learned_X5_within : GoodIn wsX5_learned (va_wsS RX5 80 yX5_within wsX5_within) := goodIn_app (goodIn_of _ (by decide +kernel)) ggX5_learned_X5_within
theorem dX5_learned_0 : decode cX5_learned 0 = .ok (.aload_n 0, 1) := by decide +kernel
theorem dX5_learned_1 : decode cX5_learned 1 = .ok (.iconst 4, 1) := by decide +kernel
theorem dX5_learned_2 : decode cX5_learned 2 = .ok (.invokevirtual 135, 3) := by decide +kernel
theorem dX5_learned_5 : decode cX5_learned 5 = .ok (.istore_n 1, 1) := by decide +kernel
theorem dX5_learned_6 : decode cX5_learned 6 = .ok (.iload_n 1, 1) := by decide +kernel
theorem dX5_learned_7 : decode cX5_learned 7 = .ok (.bipush (-5), 2) := by decide +kernel
theorem dX5_learned_9 : decode cX5_learned 9 = .ok (.if_icmp .ne 6, 3) := by decide +kernel
theorem dX5_learned_12 : decode cX5_learned 12 = .ok (.bipush (-5), 2) := by decide +kernel
theorem dX5_learned_14 : decode cX5_learned 14 = .ok (.ireturn, 1) := by decide +kernel
theorem dX5_learned_15 : decode cX5_learned 15 = .ok (.iload_n 1, 1) := by decide +kernel
theorem dX5_learned_16 : decode cX5_learned 16 = .ok (.aload_n 0, 1) := by decide +kernel
theorem dX5_learned_17 : decode cX5_learned 17 = .ok (.iconst 0, 1) := by decide +kernel
theorem dX5_learned_18 : decode cX5_learned 18 = .ok (.invokevirtual 135, 3) := by decide +kernel
theorem dX5_learned_21 : decode cX5_learned 21 = .ok (.isub, 1) := by decide +kernel
theorem dX5_learned_22 : decode cX5_learned 22 = .ok (.iconst 4, 1) := by decide +kernel
theorem dX5_learned_23 : decode cX5_learned 23 = .ok (.iadd, 1) := by decide +kernel
theorem dX5_learned_24 : decode cX5_learned 24 = .ok (.bipush 8, 2) := by decide +kernel
theorem dX5_learned_26 : decode cX5_learned 26 = .ok (.idiv, 1) := by decide +kernel
theorem dX5_learned_27 : decode cX5_learned 27 = .ok (.istore_n 2, 1) := by decide +kernel
theorem dX5_learned_28 : decode cX5_learned 28 = .ok (.iload_n 2, 1) := by decide +kernel
theorem dX5_learned_29 : decode cX5_learned 29 = .ok (.iconst 4, 1) := by decide +kernel
theorem dX5_learned_30 : decode cX5_learned 30 = .ok (.bipush 40, 2) := by decide +kernel
theorem dX5_learned_32 : decode cX5_learned 32 = .ok (.invokestatic 80, 3) := by decide +kernel
theorem dX5_learned_35 : decode cX5_learned 35 = .ok (.ifCond .eq 7, 3) := by decide +kernel
theorem dX5_learned_38 : decode cX5_learned 38 = .ok (.iload_n 2, 1) := by decide +kernel
theorem dX5_learned_39 : decode cX5_learned 39 = .ok (.goto 5, 3) := by decide +kernel
theorem dX5_learned_42 : decode cX5_learned 42 = .ok (.bipush (-5), 2) := by decide +kernel
theorem dX5_learned_44 : decode cX5_learned 44 = .ok (.ireturn, 1) := by decide +kernel
theorem dX5_type_0 : decode cX5_type 0 = .ok (.aload_n 0, 1) := by decide +kernel
theorem dX5_type_1 : decode cX5_type 1 = .ok (.getfield 138, 3) := by decide +kernel
theorem dX5_type_4 : decode cX5_type 4 = .ok (.bipush 60, 2) := by decide +kernel
theorem dX5_type_6 : decode cX5_type 6 = .ok (.if_icmp .ne 6, 3) := by decide +kernel
theorem dX5_type_9 : decode cX5_type 9 = .ok (.bipush (-3), 2) := by decide +kernel
theorem dX5_type_11 : decode cX5_type 11 = .ok (.ireturn, 1) := by decide +kernel
theorem dX5_type_12 : decode cX5_type 12 = .ok (.aload_n 0, 1) := by decide +kernel
theorem dX5_type_13 : decode cX5_type 13 = .ok (.getfield 22, 3) := by decide +kernel
theorem dX5_type_16 : decode cX5_type 16 = .ok (.aload_n 0, 1) := by decide +kernel
theorem dX5_type_17 : decode cX5_type 17 = .ok (.getfield 138, 3) := by decide +kernel
theorem dX5_type_20 : decode cX5_type 20 = .ok (.iload_n 1, 1) := by decide +kernel
theorem dX5_type_21 : decode cX5_type 21 = .ok (.iastore, 1) := by decide +kernel
theorem dX5_type_22 : decode cX5_type 22 = .ok (.aload_n 0, 1) := by decide +kernel
theorem dX5_type_23 : decode cX5_type 23 = .ok (.dup, 1) := by decide +kernel
theorem dX5_type_24 : decode cX5_type 24 = .ok (.getfield 138, 3) := by decide +kernel
theorem dX5_type_27 : decode cX5_type 27 = .ok (.iconst 1, 1) := by decide +kernel
theorem dX5_type_28 : decode cX5_type 28 = .ok (.iadd, 1) := by decide +kernel
theorem dX5_type_29 : decode cX5_type 29 = .ok (.putfield 138, 3) := by decide +kernel
theorem dX5_type_32 : decode cX5_type 32 = .ok (.aload_n 0, 1) := by decide +kernel
theorem dX5_type_33 : decode cX5_type 33 = .ok (.getfield 138, 3) := by decide +kernel
theorem dX5_type_36 : decode cX5_type 36 = .ok (.ireturn, 1) := by decide +kernel
theorem dX5_clearText_0 : decode cX5_clearText 0 = .ok (.aload_n 0, 1) := by decide +kernel
theorem dX5_clearText_1 : decode cX5_clearText 1 = .ok (.getfield 138, 3) := by decide +kernel
theorem dX5_clearText_4 : decode cX5_clearText 4 = .ok (.istore_n 1, 1) := by decide +kernel
theorem dX5_clearText_5 : decode cX5_clearText 5 = .ok (.aload_n 0, 1) := by decide +kernel
theorem dX5_clearText_6 : decode cX5_clearText 6 = .ok (.iconst 0, 1) := by decide +kernel
theorem dX5_clearText_7 : decode cX5_clearText 7 = .ok (.putfield 138, 3) := by decide +kernel
theorem dX5_clearText_10 : decode cX5_clearText 10 = .ok (.iload_n 1, 1) := by decide +kernel
theorem dX5_clearText_11 : decode cX5_clearText 11 = .ok (.ireturn, 1) := by decide +kernel
theorem dX5_codeAt_0 : decode cX5_codeAt 0 = .ok (.iload_n 1, 1) := by decide +kernel
theorem dX5_codeAt_1 : decode cX5_codeAt 1 = .ok (.aload_n 0, 1) := by decide +kernel
theorem dX5_codeAt_2 : decode cX5_codeAt 2 = .ok (.getfield 138, 3) := by decide +kernel
theorem dX5_codeAt_5 : decode cX5_codeAt 5 = .ok (.if_icmp .ge 12, 3) := by decide +kernel
theorem dX5_codeAt_8 : decode cX5_codeAt 8 = .ok (.aload_n 0, 1) := by decide +kernel
theorem dX5_codeAt_9 : decode cX5_codeAt 9 = .ok (.getfield 22, 3) := by decide +kernel
theorem dX5_codeAt_12 : decode cX5_codeAt 12 = .ok (.iload_n 1, 1) := by decide +kernel
theorem dX5_codeAt_13 : decode cX5_codeAt 13 = .ok (.iaload, 1) := by decide +kernel
theorem dX5_codeAt_14 : decode cX5_codeAt 14 = .ok (.goto 4, 3) := by decide +kernel
theorem dX5_codeAt_17 : decode cX5_codeAt 17 = .ok (.iconst 0, 1) := by decide +kernel
theorem dX5_codeAt_18 : decode cX5_codeAt 18 = .ok (.ireturn, 1) := by decide +kernel
set_option maxRecDepth 20000 in
theorem ggX5_hex_X5_within : GoodIn wsX5_hex wsX5_within := goodIn_r _ [4] (by decide +kernel) (by decide +kernel)
set_option maxRecDepth 20000 in
theorem gX5_hex_X5_within : GoodIn wsX5_hex (va_wsS RX5 80 yX5_within wsX5_within) := goodIn_app (goodIn_of _ (by decide +kernel)) ggX5_hex_X5_within
theorem dX5_hex_0 : decode cX5_hex 0 = .ok (.iload_n 0, 1) := by decide +kernel
theorem dX5_hex_1 : decode cX5_hex 1 = .ok (.bipush 48, 2) := by decide +kernel
theorem dX5_hex_3 : decode cX5_hex 3 = .ok (.bipush 57, 2) := by decide +kernel
theorem dX5_hex_5 : decode cX5_hex 5 = .ok (.invokestatic 80, 3) := by decide +kernel
theorem dX5_hex_8 : decode cX5_hex 8 = .ok (.ifCond .eq 10, 3) := by decide +kernel
theorem dX5_hex_11 : decode cX5_hex 11 = .ok (.iload_n 0, 1) := by decide +kernel
theorem dX5_hex_12 : decode cX5_hex 12 = .ok (.bipush 48, 2) := by decide +kernel
theorem dX5_hex_14 : decode cX5_hex 14 = .ok (.isub, 1) := by decide +kernel
theorem dX5_hex_15 : decode cX5_hex 15 = .ok (.goto 26, 3) := by decide +kernel
theorem dX5_hex_18 : decode cX5_hex 18 = .ok (.iload_n 0, 1) := by decide +kernel
theorem dX5_hex_19 : decode cX5_hex 19 = .ok (.bipush 97, 2) := by decide +kernel
theorem dX5_hex_21 : decode cX5_hex 21 = .ok (.bipush 102, 2) := by decide +kernel
theorem dX5_hex_23 : decode cX5_hex 23 = .ok (.invokestatic 80, 3) := by decide +kernel
theorem dX5_hex_26 : decode cX5_hex 26 = .ok (.ifCond .eq 13, 3) := by decide +kernel
theorem dX5_hex_29 : decode cX5_hex 29 = .ok (.iload_n 0, 1) := by decide +kernel
theorem dX5_hex_30 : decode cX5_hex 30 = .ok (.bipush 97, 2) := by decide +kernel
theorem dX5_hex_32 : decode cX5_hex 32 = .ok (.isub, 1) := by decide +kernel
theorem dX5_hex_33 : decode cX5_hex 33 = .ok (.bipush 10, 2) := by decide +kernel
theorem dX5_hex_35 : decode cX5_hex 35 = .ok (.iadd, 1) := by decide +kernel
theorem dX5_hex_36 : decode cX5_hex 36 = .ok (.goto 5, 3) := by decide +kernel
theorem dX5_hex_39 : decode cX5_hex 39 = .ok (.bipush (-5), 2) := by decide +kernel
theorem dX5_hex_41 : decode cX5_hex 41 = .ok (.ireturn, 1) := by decide +kernel
set_option maxRecDepth 20000 in
theorem ggX5_readNumber_X5_codeAt : GoodIn wsX5_readNumber wsX5_codeAt := goodIn_r _ [6, 7, 8, 12, 13, 14, 15, 16, 17, 18, 19, 20, 21, 22, 23, 24, 25, 26, 27, 28, 29, 30, 31] (by decide +kernel) (by decide +kernel)
set_option maxRecDepth 20000 in
theorem gX5_readNumber_X5_codeAt : GoodIn wsX5_readNumber (wsV RX5 144 RX5 yX5_codeAt wsX5_codeAt) := goodIn_app (goodIn_of _ (by decide +kernel)) ggX5_readNumber_X5_codeAt
set_option maxRecDepth 20000 in
theorem ggX5_readNumber_X5_within : GoodIn wsX5_readNumber wsX5_within := goodIn_r _ [11] (by decide +kernel) (by decide +kernel)
set_option maxRecDepth 20000 in
theorem gX5_readNumber_X5_within : GoodIn wsX5_readNumber (va_wsS RX5 80 yX5_within wsX5_within) := goodIn_app (goodIn_of _ (by decide +kernel)) ggX5_readNumber_X5_within
theorem dX5_readNumber_0 : decode cX5_readNumber 0 = .ok (.aload_n 0, 1) := by decide +kernel
theorem dX5_readNumber_1 : decode cX5_readNumber 1 = .ok (.aload_n 0, 1) := by decide +kernel
theorem dX5_readNumber_2 : decode cX5_readNumber 2 = .ok (.getfield 141, 3) := by decide +kernel
theorem dX5_readNumber_5 : decode cX5_readNumber 5 = .ok (.invokevirtual 144, 3) := by decide +kernel
theorem dX5_readNumber_8 : decode cX5_readNumber 8 = .ok (.bipush 49, 2) := by decide +kernel
theorem dX5_readNumber_10 : decode cX5_readNumber 10 = .ok (.bipush 57, 2) := by decide +kernel
theorem dX5_readNumber_12 : decode cX5_readNumber 12 = .ok (.invokestatic 80, 3) := by decide +kernel
theorem dX5_readNumber_15 : decode cX5_readNumber 15 = .ok (.ifCond .ne 5, 3) := by decide +kernel
theorem dX5_readNumber_18 : decode cX5_readNumber 18 = .ok (.iconst 0, 1) := by decide +kernel
theorem dX5_readNumber_19 : decode cX5_readNumber 19 = .ok (.ireturn, 1) := by decide +kernel
theorem dX5_readNumber_20 : decode cX5_readNumber 20 = .ok (.aload_n 0, 1) := by decide +kernel
theorem dX5_readNumber_21 : decode cX5_readNumber 21 = .ok (.aload_n 0, 1) := by decide +kernel
theorem dX5_readNumber_22 : decode cX5_readNumber 22 = .ok (.getfield 141, 3) := by decide +kernel
theorem dX5_readNumber_25 : decode cX5_readNumber 25 = .ok (.invokevirtual 144, 3) := by decide +kernel
theorem dX5_readNumber_28 : decode cX5_readNumber 28 = .ok (.bipush 48, 2) := by decide +kernel
theorem dX5_readNumber_30 : decode cX5_readNumber 30 = .ok (.isub, 1) := by decide +kernel
theorem dX5_readNumber_31 : decode cX5_readNumber 31 = .ok (.istore_n 1, 1) := by decide +kernel
theorem dX5_readNumber_32 : decode cX5_readNumber 32 = .ok (.aload_n 0, 1) := by decide +kernel
theorem dX5_readNumber_33 : decode cX5_readNumber 33 = .ok (.dup, 1) := by decide +kernel
theorem dX5_readNumber_34 : decode cX5_readNumber 34 = .ok (.getfield 141, 3) := by decide +kernel
theorem dX5_readNumber_37 : decode cX5_readNumber 37 = .ok (.iconst 1, 1) := by decide +kernel
theorem dX5_readNumber_38 : decode cX5_readNumber 38 = .ok (.iadd, 1) := by decide +kernel
theorem dX5_readNumber_39 : decode cX5_readNumber 39 = .ok (.putfield 141, 3) := by decide +kernel
theorem dX5_readNumber_42 : decode cX5_readNumber 42 = .ok (.aload_n 0, 1) := by decide +kernel
theorem dX5_readNumber_43 : decode cX5_readNumber 43 = .ok (.aload_n 0, 1) := by decide +kernel
theorem dX5_readNumber_44 : decode cX5_readNumber 44 = .ok (.getfield 141, 3) := by decide +kernel
theorem dX5_readNumber_47 : decode cX5_readNumber 47 = .ok (.invokevirtual 144, 3) := by decide +kernel
theorem dX5_readNumber_50 : decode cX5_readNumber 50 = .ok (.bipush 48, 2) := by decide +kernel
theorem dX5_readNumber_52 : decode cX5_readNumber 52 = .ok (.bipush 57, 2) := by decide +kernel
theorem dX5_readNumber_54 : decode cX5_readNumber 54 = .ok (.invokestatic 80, 3) := by decide +kernel
theorem dX5_readNumber_57 : decode cX5_readNumber 57 = .ok (.ifCond .eq 30, 3) := by decide +kernel
theorem dX5_readNumber_60 : decode cX5_readNumber 60 = .ok (.bipush 10, 2) := by decide +kernel
theorem dX5_readNumber_62 : decode cX5_readNumber 62 = .ok (.iload_n 1, 1) := by decide +kernel
theorem dX5_readNumber_63 : decode cX5_readNumber 63 = .ok (.imul, 1) := by decide +kernel
theorem dX5_readNumber_64 : decode cX5_readNumber 64 = .ok (.aload_n 0, 1) := by decide +kernel
theorem dX5_readNumber_65 : decode cX5_readNumber 65 = .ok (.aload_n 0, 1) := by decide +kernel
theorem dX5_readNumber_66 : decode cX5_readNumber 66 = .ok (.getfield 141, 3) := by decide +kernel
theorem dX5_readNumber_69 : decode cX5_readNumber 69 = .ok (.invokevirtual 144, 3) := by decide +kernel
theorem dX5_readNumber_72 : decode cX5_readNumber 72 = .ok (.iadd, 1) := by decide +kernel
theorem dX5_readNumber_73 : decode cX5_readNumber 73 = .ok (.bipush 48, 2) := by decide +kernel
theorem dX5_readNumber_75 : decode cX5_readNumber 75 = .ok (.isub, 1) := by decide +kernel
theorem dX5_readNumber_76 : decode cX5_readNumber 76 = .ok (.istore_n 1, 1) := by decide +kernel
theorem dX5_readNumber_77 : decode cX5_readNumber 77 = .ok (.aload_n 0, 1) := by decide +kernel
theorem dX5_readNumber_78 : decode cX5_readNumber 78 = .ok (.dup, 1) := by decide +kernel
theorem dX5_readNumber_79 : decode cX5_readNumber 79 = .ok (.getfield 141, 3) := by decide +kernel
theorem dX5_readNumber_82 : decode cX5_readNumber 82 = .ok (.iconst 1, 1) := by decide +kernel
theorem dX5_readNumber_83 : decode cX5_readNumber 83 = .ok (.iadd, 1) := by decide +kernel
theorem dX5_readNumber_84 : decode cX5_readNumber 84 = .ok (.putfield 141, 3) := by decide +kernel
theorem dX5_readNumber_87 : decode cX5_readNumber 87 = .ok (.iload_n 1, 1) := by decide +kernel
theorem dX5_readNumber_88 : decode cX5_readNumber 88 = .ok (.ireturn, 1) := by decide +kernel
set_option maxRecDepth 20000 in
theorem ggX5_isRepeat_X5_codeAt : GoodIn wsX5_isRepeat wsX5_codeAt := goodIn_r _ [6, 7, 8, 12, 13, 14, 15, 16, 17, 18, 19, 20, 21, 22, 23, 24, 25, 26, 27, 28, 29, 30, 31] (by decide +kernel) (by decide +kernel)
set_option maxRecDepth 20000 in
theorem gX5_isRepeat_X5_codeAt : GoodIn wsX5_isRepeat (wsV RX5 144 RX5 yX5_codeAt wsX5_codeAt) := goodIn_app (goodIn_of _ (by decide +kernel)) ggX5_isRepeat_X5_codeAt
set_option maxRecDepth 20000 in
theorem ggX5_isRepeat_X5_within : GoodIn wsX5_isRepeat wsX5_within := goodIn_r _ [11] (by decide +kernel) (by decide +kernel)
set_option maxRecDepth 20000 in
theorem gX5_isRepeat_X5_within : GoodIn wsX5_isRepeat (va_wsS RX5 80 yX5_within wsX5_within) := goodIn_app (goodIn_of _ (by decide +kernel)) ggX5_isRepeat_X5_within
theorem dX5_isRepeat_0 : decode cX5_isRepeat 0 = .ok (.aload_n 0, 1) := by decide +kernel
theorem dX5_isRepeat_1 : decode cX5_isRepeat 1 = .ok (.aload_n 0, 1) := by decide +kernel
theorem dX5_isRepeat_2 : decode cX5_isRepeat 2 = .ok (.getfield 141, 3) := by decide +kernel
theorem dX5_isRepeat_5 : decode cX5_isRepeat 5 = .ok (.invokevirtual 144, 3) := by decide +kernel
theorem dX5_isRepeat_8 : decode cX5_isRepeat 8 = .ok (.bipush 50, 2) := by decide +kernel
theorem dX5_isRepeat_10 : decode cX5_isRepeat 10 = .ok (.bipush 57, 2) := by decide +kernel
theorem dX5_isRepeat_12 : decode cX5_isRepeat 12 = .ok (.invokestatic 80, 3) := by decide +kernel
theorem dX5_isRepeat_15 : decode cX5_isRepeat 15 = .ok (.ifCond .eq 22, 3) := by decide +kernel
theorem dX5_isRepeat_18 : decode cX5_isRepeat 18 = .ok (.aload_n 0, 1) := by decide +kernel
theorem dX5_isRepeat_19 : decode cX5_isRepeat 19 = .ok (.aload_n 0, 1) := by decide +kernel
theorem dX5_isRepeat_20 : decode cX5_isRepeat 20 = .ok (.getfield 141, 3) := by decide +kernel
theorem dX5_isRepeat_23 : decode cX5_isRepeat 23 = .ok (.iconst 1, 1) := by decide +kernel
theorem dX5_isRepeat_24 : decode cX5_isRepeat 24 = .ok (.iadd, 1) := by decide +kernel
theorem dX5_isRepeat_25 : decode cX5_isRepeat 25 = .ok (.invokevirtual 144, 3) := by decide +kernel
theorem dX5_isRepeat_28 : decode cX5_isRepeat 28 = .ok (.bipush 40, 2) := by decide +kernel
theorem dX5_isRepeat_30 : decode cX5_isRepeat 30 = .ok (.if_icmp .ne 7, 3) := by decide +kernel
theorem dX5_isRepeat_33 : decode cX5_isRepeat 33 = .ok (.iconst 1, 1) := by decide +kernel
theorem dX5_isRepeat_34 : decode cX5_isRepeat 34 = .ok (.goto 4, 3) := by decide +kernel
theorem dX5_isRepeat_37 : decode cX5_isRepeat 37 = .ok (.iconst 0, 1) := by decide +kernel
theorem dX5_isRepeat_38 : decode cX5_isRepeat 38 = .ok (.ireturn, 1) := by decide +kernel
set_option maxRecDepth 20000 in
theorem ggX5_passesItem_X5_codeAt : GoodIn wsX5_passesItem wsX5_codeAt := goodIn_r _ [6, 7, 8, 19, 20, 21, 22, 23, 24, 25, 26, 27, 28, 29, 30, 31, 32, 33, 34, 35, 36, 37, 38] (by decide +kernel) (by decide +kernel)
set_option maxRecDepth 20000 in
theorem gX5_passesItem_X5_codeAt : GoodIn wsX5_passesItem (wsV RX5 144 RX5 yX5_codeAt wsX5_codeAt) := goodIn_app (goodIn_of _ (by decide +kernel)) ggX5_passesItem_X5_codeAt
set_option maxRecDepth 20000 in
theorem ggX5_passesItem_X5_readNumber : GoodIn wsX5_passesItem wsX5_readNumber := goodIn_r _ [12, 1, 2, 3, 4, 5, 6, 7, 8, 13, 14, 15, 19, 20, 21, 22, 23, 24, 25, 26, 27, 28, 29, 30, 31, 32, 33, 34, 35, 36, 37, 38] (by decide +kernel) (by decide +kernel)
set_option maxRecDepth 20000 in
theorem gX5_passesItem_X5_readNumber : GoodIn wsX5_passesItem (wsV RX5 147 RX5 yX5_readNumber wsX5_readNumber) := goodIn_app (goodIn_of _ (by decide +kernel)) ggX5_passesItem_X5_readNumber
set_option maxRecDepth 20000 in
theorem ggX5_passesItem_X5_hex : GoodIn wsX5_passesItem wsX5_hex := goodIn_r _ [18, 13, 14, 5, 15] (by decide +kernel) (by decide +kernel)
set_option maxRecDepth 20000 in
theorem gX5_passesItem_X5_hex : GoodIn wsX5_passesItem (va_wsS RX5 150 yX5_hex wsX5_hex) := goodIn_app (goodIn_of _ (by decide +kernel)) ggX5_passesItem_X5_hex
theorem dX5_passesItem_0 : decode cX5_passesItem 0 = .ok (.aload_n 0, 1) := by decide +kernel
theorem dX5_passesItem_1 : decode cX5_passesItem 1 = .ok (.aload_n 0, 1) := by decide +kernel
theorem dX5_passesItem_2 : decode cX5_passesItem 2 = .ok (.getfield 141, 3) := by decide +kernel
theorem dX5_passesItem_5 : decode cX5_passesItem 5 = .ok (.invokevirtual 144, 3) := by decide +kernel
theorem dX5_passesItem_8 : decode cX5_passesItem 8 = .ok (.bipush 46, 2) := by decide +kernel
theorem dX5_passesItem_10 : decode cX5_passesItem 10 = .ok (.if_icmp .eq 16, 3) := by decide +kernel
theorem dX5_passesItem_13 : decode cX5_passesItem 13 = .ok (.aload_n 0, 1) := by decide +kernel
theorem dX5_passesItem_14 : decode cX5_passesItem 14 = .ok (.aload_n 0, 1) := by decide +kernel
theorem dX5_passesItem_15 : decode cX5_passesItem 15 = .ok (.getfield 141, 3) := by decide +kernel
theorem dX5_passesItem_18 : decode cX5_passesItem 18 = .ok (.invokevirtual 144, 3) := by decide +kernel
theorem dX5_passesItem_21 : decode cX5_passesItem 21 = .ok (.bipush 95, 2) := by decide +kernel
theorem dX5_passesItem_23 : decode cX5_passesItem 23 = .ok (.if_icmp .ne 26, 3) := by decide +kernel
theorem dX5_passesItem_26 : decode cX5_passesItem 26 = .ok (.aload_n 0, 1) := by decide +kernel
theorem dX5_passesItem_27 : decode cX5_passesItem 27 = .ok (.dup, 1) := by decide +kernel
theorem dX5_passesItem_28 : decode cX5_passesItem 28 = .ok (.getfield 141, 3) := by decide +kernel
theorem dX5_passesItem_31 : decode cX5_passesItem 31 = .ok (.iconst 1, 1) := by decide +kernel
theorem dX5_passesItem_32 : decode cX5_passesItem 32 = .ok (.iadd, 1) := by decide +kernel
theorem dX5_passesItem_33 : decode cX5_passesItem 33 = .ok (.putfield 141, 3) := by decide +kernel
theorem dX5_passesItem_36 : decode cX5_passesItem 36 = .ok (.aload_n 0, 1) := by decide +kernel
theorem dX5_passesItem_37 : decode cX5_passesItem 37 = .ok (.invokevirtual 147, 3) := by decide +kernel
theorem dX5_passesItem_40 : decode cX5_passesItem 40 = .ok (.ifCond .le 7, 3) := by decide +kernel
theorem dX5_passesItem_43 : decode cX5_passesItem 43 = .ok (.iconst 1, 1) := by decide +kernel
theorem dX5_passesItem_44 : decode cX5_passesItem 44 = .ok (.goto 4, 3) := by decide +kernel
theorem dX5_passesItem_47 : decode cX5_passesItem 47 = .ok (.iconst 0, 1) := by decide +kernel
theorem dX5_passesItem_48 : decode cX5_passesItem 48 = .ok (.ireturn, 1) := by decide +kernel
theorem dX5_passesItem_49 : decode cX5_passesItem 49 = .ok (.iconst 0, 1) := by decide +kernel
theorem dX5_passesItem_50 : decode cX5_passesItem 50 = .ok (.istore_n 1, 1) := by decide +kernel
theorem dX5_passesItem_51 : decode cX5_passesItem 51 = .ok (.iload_n 1, 1) := by decide +kernel
theorem dX5_passesItem_52 : decode cX5_passesItem 52 = .ok (.iconst 2, 1) := by decide +kernel
theorem dX5_passesItem_53 : decode cX5_passesItem 53 = .ok (.if_icmp .ge 37, 3) := by decide +kernel
theorem dX5_passesItem_56 : decode cX5_passesItem 56 = .ok (.aload_n 0, 1) := by decide +kernel
theorem dX5_passesItem_57 : decode cX5_passesItem 57 = .ok (.aload_n 0, 1) := by decide +kernel
theorem dX5_passesItem_58 : decode cX5_passesItem 58 = .ok (.getfield 141, 3) := by decide +kernel
theorem dX5_passesItem_61 : decode cX5_passesItem 61 = .ok (.invokevirtual 144, 3) := by decide +kernel
theorem dX5_passesItem_64 : decode cX5_passesItem 64 = .ok (.invokestatic 150, 3) := by decide +kernel
theorem dX5_passesItem_67 : decode cX5_passesItem 67 = .ok (.bipush (-5), 2) := by decide +kernel
theorem dX5_passesItem_69 : decode cX5_passesItem 69 = .ok (.if_icmp .ne 5, 3) := by decide +kernel
theorem dX5_passesItem_72 : decode cX5_passesItem 72 = .ok (.iconst 0, 1) := by decide +kernel
theorem dX5_passesItem_73 : decode cX5_passesItem 73 = .ok (.ireturn, 1) := by decide +kernel
theorem dX5_passesItem_74 : decode cX5_passesItem 74 = .ok (.aload_n 0, 1) := by decide +kernel
theorem dX5_passesItem_75 : decode cX5_passesItem 75 = .ok (.dup, 1) := by decide +kernel
theorem dX5_passesItem_76 : decode cX5_passesItem 76 = .ok (.getfield 141, 3) := by decide +kernel
theorem dX5_passesItem_79 : decode cX5_passesItem 79 = .ok (.iconst 1, 1) := by decide +kernel
theorem dX5_passesItem_80 : decode cX5_passesItem 80 = .ok (.iadd, 1) := by decide +kernel
theorem dX5_passesItem_81 : decode cX5_passesItem 81 = .ok (.putfield 141, 3) := by decide +kernel
theorem dX5_passesItem_84 : decode cX5_passesItem 84 = .ok (.iinc 1 1, 3) := by decide +kernel
theorem dX5_passesItem_87 : decode cX5_passesItem 87 = .ok (.goto (-36), 3) := by decide +kernel
theorem dX5_passesItem_90 : decode cX5_passesItem 90 = .ok (.iconst 1, 1) := by decide +kernel
theorem dX5_passesItem_91 : decode cX5_passesItem 91 = .ok (.ireturn, 1) := by decide +kernel
set_option maxRecDepth 20000 in
theorem ggX5_fault_X5_isRepeat : GoodIn wsX5_fault wsX5_isRepeat := goodIn_r _ [8, 1, 9, 10, 11, 7, 12, 3, 13, 14, 15, 16, 28, 29, 30, 31, 32, 33, 34, 35, 36, 37, 38, 39, 40, 41, 42, 43, 44, 45, 46, 47] (by decide +kernel) (by decide +kernel)
set_option maxRecDepth 20000 in
theorem gX5_fault_X5_isRepeat : GoodIn wsX5_fault (wsV RX5 156 RX5 yX5_isRepeat wsX5_isRepeat) := goodIn_app (goodIn_of _ (by decide +kernel)) ggX5_fault_X5_isRepeat
set_option maxRecDepth 20000 in
theorem ggX5_fault_X5_passesItem : GoodIn wsX5_fault wsX5_passesItem := goodIn_r _ [20, 1, 9, 10, 11, 7, 12, 3, 13, 21, 22, 23, 24, 14, 15, 16, 25, 26, 27, 28, 29, 30, 31, 32, 33, 34, 35, 36, 37, 38, 39, 40, 41, 42, 43, 44, 45, 46, 47] (by decide +kernel) (by decide +kernel)
set_option maxRecDepth 20000 in
theorem gX5_fault_X5_passesItem : GoodIn wsX5_fault (wsV RX5 159 RX5 yX5_passesItem wsX5_passesItem) := goodIn_app (goodIn_of _ (by decide +kernel)) ggX5_fault_X5_passesItem
set_option maxRecDepth 20000 in
theorem ggX5_fault_X5_codeAt : GoodIn wsX5_fault wsX5_codeAt := goodIn_r _ [12, 3, 13, 28, 29, 30, 31, 32, 33, 34, 35, 36, 37, 38, 39, 40, 41, 42, 43, 44, 45, 46, 47] (by decide +kernel) (by decide +kernel)
set_option maxRecDepth 20000 in
theorem gX5_fault_X5_codeAt : GoodIn wsX5_fault (wsV RX5 144 RX5 yX5_codeAt wsX5_codeAt) := goodIn_app (goodIn_of _ (by decide +kernel)) ggX5_fault_X5_codeAt
theorem dX5_fault_0 : decode cX5_fault 0 = .ok (.aload_n 0, 1) := by decide +kernel
theorem dX5_fault_1 : decode cX5_fault 1 = .ok (.iconst 0, 1) := by decide +kernel
theorem dX5_fault_2 : decode cX5_fault 2 = .ok (.putfield 141, 3) := by decide +kernel
theorem dX5_fault_5 : decode cX5_fault 5 = .ok (.aload_n 0, 1) := by decide +kernel
theorem dX5_fault_6 : decode cX5_fault 6 = .ok (.iconst 0, 1) := by decide +kernel
theorem dX5_fault_7 : decode cX5_fault 7 = .ok (.putfield 153, 3) := by decide +kernel
theorem dX5_fault_10 : decode cX5_fault 10 = .ok (.aload_n 0, 1) := by decide +kernel
theorem dX5_fault_11 : decode cX5_fault 11 = .ok (.invokevirtual 156, 3) := by decide +kernel
theorem dX5_fault_14 : decode cX5_fault 14 = .ok (.ifCond .eq 26, 3) := by decide +kernel
theorem dX5_fault_17 : decode cX5_fault 17 = .ok (.aload_n 0, 1) := by decide +kernel
theorem dX5_fault_18 : decode cX5_fault 18 = .ok (.dup, 1) := by decide +kernel
theorem dX5_fault_19 : decode cX5_fault 19 = .ok (.getfield 141, 3) := by decide +kernel
theorem dX5_fault_22 : decode cX5_fault 22 = .ok (.iconst 2, 1) := by decide +kernel
theorem dX5_fault_23 : decode cX5_fault 23 = .ok (.iadd, 1) := by decide +kernel
theorem dX5_fault_24 : decode cX5_fault 24 = .ok (.putfield 141, 3) := by decide +kernel
theorem dX5_fault_27 : decode cX5_fault 27 = .ok (.aload_n 0, 1) := by decide +kernel
theorem dX5_fault_28 : decode cX5_fault 28 = .ok (.dup, 1) := by decide +kernel
theorem dX5_fault_29 : decode cX5_fault 29 = .ok (.getfield 153, 3) := by decide +kernel
theorem dX5_fault_32 : decode cX5_fault 32 = .ok (.iconst 1, 1) := by decide +kernel
theorem dX5_fault_33 : decode cX5_fault 33 = .ok (.iadd, 1) := by decide +kernel
theorem dX5_fault_34 : decode cX5_fault 34 = .ok (.putfield 153, 3) := by decide +kernel
theorem dX5_fault_37 : decode cX5_fault 37 = .ok (.goto (-27), 3) := by decide +kernel
theorem dX5_fault_40 : decode cX5_fault 40 = .ok (.aload_n 0, 1) := by decide +kernel
theorem dX5_fault_41 : decode cX5_fault 41 = .ok (.invokevirtual 159, 3) := by decide +kernel
theorem dX5_fault_44 : decode cX5_fault 44 = .ok (.ifCond .ne 8, 3) := by decide +kernel
theorem dX5_fault_47 : decode cX5_fault 47 = .ok (.aload_n 0, 1) := by decide +kernel
theorem dX5_fault_48 : decode cX5_fault 48 = .ok (.getfield 141, 3) := by decide +kernel
theorem dX5_fault_51 : decode cX5_fault 51 = .ok (.ireturn, 1) := by decide +kernel
theorem dX5_fault_52 : decode cX5_fault 52 = .ok (.aload_n 0, 1) := by decide +kernel
theorem dX5_fault_53 : decode cX5_fault 53 = .ok (.getfield 153, 3) := by decide +kernel
theorem dX5_fault_56 : decode cX5_fault 56 = .ok (.ifCond .le 39, 3) := by decide +kernel
theorem dX5_fault_59 : decode cX5_fault 59 = .ok (.aload_n 0, 1) := by decide +kernel
theorem dX5_fault_60 : decode cX5_fault 60 = .ok (.aload_n 0, 1) := by decide +kernel
theorem dX5_fault_61 : decode cX5_fault 61 = .ok (.getfield 141, 3) := by decide +kernel
theorem dX5_fault_64 : decode cX5_fault 64 = .ok (.invokevirtual 144, 3) := by decide +kernel
theorem dX5_fault_67 : decode cX5_fault 67 = .ok (.bipush 41, 2) := by decide +kernel
theorem dX5_fault_69 : decode cX5_fault 69 = .ok (.if_icmp .ne 26, 3) := by decide +kernel
theorem dX5_fault_72 : decode cX5_fault 72 = .ok (.aload_n 0, 1) := by decide +kernel
theorem dX5_fault_73 : decode cX5_fault 73 = .ok (.dup, 1) := by decide +kernel
theorem dX5_fault_74 : decode cX5_fault 74 = .ok (.getfield 141, 3) := by decide +kernel
theorem dX5_fault_77 : decode cX5_fault 77 = .ok (.iconst 1, 1) := by decide +kernel
theorem dX5_fault_78 : decode cX5_fault 78 = .ok (.iadd, 1) := by decide +kernel
theorem dX5_fault_79 : decode cX5_fault 79 = .ok (.putfield 141, 3) := by decide +kernel
theorem dX5_fault_82 : decode cX5_fault 82 = .ok (.aload_n 0, 1) := by decide +kernel
theorem dX5_fault_83 : decode cX5_fault 83 = .ok (.dup, 1) := by decide +kernel
theorem dX5_fault_84 : decode cX5_fault 84 = .ok (.getfield 153, 3) := by decide +kernel
theorem dX5_fault_87 : decode cX5_fault 87 = .ok (.iconst 1, 1) := by decide +kernel
theorem dX5_fault_88 : decode cX5_fault 88 = .ok (.isub, 1) := by decide +kernel
theorem dX5_fault_89 : decode cX5_fault 89 = .ok (.putfield 153, 3) := by decide +kernel
theorem dX5_fault_92 : decode cX5_fault 92 = .ok (.goto (-40), 3) := by decide +kernel
theorem dX5_fault_95 : decode cX5_fault 95 = .ok (.aload_n 0, 1) := by decide +kernel
theorem dX5_fault_96 : decode cX5_fault 96 = .ok (.getfield 141, 3) := by decide +kernel
theorem dX5_fault_99 : decode cX5_fault 99 = .ok (.aload_n 0, 1) := by decide +kernel
theorem dX5_fault_100 : decode cX5_fault 100 = .ok (.getfield 138, 3) := by decide +kernel
theorem dX5_fault_103 : decode cX5_fault 103 = .ok (.if_icmp .ne 13, 3) := by decide +kernel
theorem dX5_fault_106 : decode cX5_fault 106 = .ok (.aload_n 0, 1) := by decide +kernel
theorem dX5_fault_107 : decode cX5_fault 107 = .ok (.getfield 153, 3) := by decide +kernel
theorem dX5_fault_110 : decode cX5_fault 110 = .ok (.ifCond .ne 6, 3) := by decide +kernel
theorem dX5_fault_113 : decode cX5_fault 113 = .ok (.bipush (-5), 2) := by decide +kernel
theorem dX5_fault_115 : decode cX5_fault 115 = .ok (.ireturn, 1) := by decide +kernel
theorem dX5_fault_116 : decode cX5_fault 116 = .ok (.aload_n 0, 1) := by decide +kernel
theorem dX5_fault_117 : decode cX5_fault 117 = .ok (.aload_n 0, 1) := by decide +kernel
theorem dX5_fault_118 : decode cX5_fault 118 = .ok (.getfield 141, 3) := by decide +kernel
theorem dX5_fault_121 : decode cX5_fault 121 = .ok (.invokevirtual 144, 3) := by decide +kernel
theorem dX5_fault_124 : decode cX5_fault 124 = .ok (.bipush 44, 2) := by decide +kernel
theorem dX5_fault_126 : decode cX5_fault 126 = .ok (.if_icmp .eq 8, 3) := by decide +kernel
theorem dX5_fault_129 : decode cX5_fault 129 = .ok (.aload_n 0, 1) := by decide +kernel
theorem dX5_fault_130 : decode cX5_fault 130 = .ok (.getfield 141, 3) := by decide +kernel
theorem dX5_fault_133 : decode cX5_fault 133 = .ok (.ireturn, 1) := by decide +kernel
theorem dX5_fault_134 : decode cX5_fault 134 = .ok (.aload_n 0, 1) := by decide +kernel
theorem dX5_fault_135 : decode cX5_fault 135 = .ok (.dup, 1) := by decide +kernel
theorem dX5_fault_136 : decode cX5_fault 136 = .ok (.getfield 141, 3) := by decide +kernel
theorem dX5_fault_139 : decode cX5_fault 139 = .ok (.iconst 1, 1) := by decide +kernel
theorem dX5_fault_140 : decode cX5_fault 140 = .ok (.iadd, 1) := by decide +kernel
theorem dX5_fault_141 : decode cX5_fault 141 = .ok (.putfield 141, 3) := by decide +kernel
theorem dX5_fault_144 : decode cX5_fault 144 = .ok (.goto (-134), 3) := by decide +kernel
set_option maxRecDepth 20000 in
theorem ggX5_sendsItem_X5_codeAt : GoodIn wsX5_sendsItem wsX5_codeAt := goodIn_r _ [6, 7, 8, 47, 48, 49, 50, 51, 52, 53, 54, 55, 56, 57, 58, 59, 60, 61, 62, 63, 64, 65, 66] (by decide +kernel) (by decide +kernel)
set_option maxRecDepth 20000 in
theorem gX5_sendsItem_X5_codeAt : GoodIn wsX5_sendsItem (wsV RX5 144 RX5 yX5_codeAt wsX5_codeAt) := goodIn_app (goodIn_of _ (by decide +kernel)) ggX5_sendsItem_X5_codeAt
set_option maxRecDepth 20000 in
theorem ggX5_sendsItem_X5_readNumber : GoodIn wsX5_sendsItem wsX5_readNumber := goodIn_r _ [12, 1, 2, 3, 4, 5, 6, 7, 8, 13, 14, 15, 47, 48, 49, 50, 51, 52, 53, 54, 55, 56, 57, 58, 59, 60, 61, 62, 63, 64, 65, 66] (by decide +kernel) (by decide +kernel)
set_option maxRecDepth 20000 in
theorem gX5_sendsItem_X5_readNumber : GoodIn wsX5_sendsItem (wsV RX5 147 RX5 yX5_readNumber wsX5_readNumber) := goodIn_app (goodIn_of _ (by decide +kernel)) ggX5_sendsItem_X5_readNumber
set_option maxRecDepth 20000 in
theorem ggX5_sendsItem_X5_putLevel : GoodIn wsX5_sendsItem wsX5_putLevel := goodIn_r _ [19, 20, 47, 48, 49, 50, 51, 52, 53, 54, 55, 56, 57, 58, 59, 60, 61, 62, 63, 64, 65, 66] (by decide +kernel) (by decide +kernel)
set_option maxRecDepth 20000 in
theorem gX5_sendsItem_X5_putLevel : GoodIn wsX5_sendsItem (wsV RX5 88 RX5 yX5_putLevel wsX5_putLevel) := goodIn_app (goodIn_of _ (by decide +kernel)) ggX5_sendsItem_X5_putLevel
set_option maxRecDepth 20000 in
theorem ggX5_sendsItem_X5_hex : GoodIn wsX5_sendsItem wsX5_hex := goodIn_r _ [23, 13, 14, 5, 15] (by decide +kernel) (by decide +kernel)
set_option maxRecDepth 20000 in
theorem gX5_sendsItem_X5_hex : GoodIn wsX5_sendsItem (va_wsS RX5 150 yX5_hex wsX5_hex) := goodIn_app (goodIn_of _ (by decide +kernel)) ggX5_sendsItem_X5_hex
set_option maxRecDepth 20000 in
theorem ggX5_sendsItem_X5_putWord : GoodIn wsX5_sendsItem wsX5_putWord := goodIn_r _ [27, 20, 28, 29, 30, 5, 31, 32, 33, 34, 35, 36, 37, 38, 39, 40, 41, 42, 43, 44, 45, 46, 47, 48, 49, 50, 51, 52, 53, 54, 55, 56, 57, 58, 59, 60, 61, 62, 63, 64, 65, 66] (by decide +kernel) (by decide +kernel)
set_option maxRecDepth 20000 in
theorem gX5_sendsItem_X5_putWord : GoodIn wsX5_sendsItem (wsV RX5 84 RX5 yX5_putWord wsX5_putWord) := goodIn_app (goodIn_of _ (by decide +kernel)) ggX5_sendsItem_X5_putWord
theorem dX5_sendsItem_0 : decode cX5_sendsItem 0 = .ok (.aload_n 0, 1) := by decide +kernel
theorem dX5_sendsItem_1 : decode cX5_sendsItem 1 = .ok (.aload_n 0, 1) := by decide +kernel
theorem dX5_sendsItem_2 : decode cX5_sendsItem 2 = .ok (.getfield 141, 3) := by decide +kernel
theorem dX5_sendsItem_5 : decode cX5_sendsItem 5 = .ok (.invokevirtual 144, 3) := by decide +kernel
theorem dX5_sendsItem_8 : decode cX5_sendsItem 8 = .ok (.istore_n 1, 1) := by decide +kernel
theorem dX5_sendsItem_9 : decode cX5_sendsItem 9 = .ok (.iload_n 1, 1) := by decide +kernel
theorem dX5_sendsItem_10 : decode cX5_sendsItem 10 = .ok (.bipush 46, 2) := by decide +kernel
theorem dX5_sendsItem_12 : decode cX5_sendsItem 12 = .ok (.if_icmp .eq 9, 3) := by decide +kernel
theorem dX5_sendsItem_15 : decode cX5_sendsItem 15 = .ok (.iload_n 1, 1) := by decide +kernel
theorem dX5_sendsItem_16 : decode cX5_sendsItem 16 = .ok (.bipush 95, 2) := by decide +kernel
theorem dX5_sendsItem_18 : decode cX5_sendsItem 18 = .ok (.if_icmp .ne 33, 3) := by decide +kernel
theorem dX5_sendsItem_21 : decode cX5_sendsItem 21 = .ok (.aload_n 0, 1) := by decide +kernel
theorem dX5_sendsItem_22 : decode cX5_sendsItem 22 = .ok (.dup, 1) := by decide +kernel
theorem dX5_sendsItem_23 : decode cX5_sendsItem 23 = .ok (.getfield 141, 3) := by decide +kernel
theorem dX5_sendsItem_26 : decode cX5_sendsItem 26 = .ok (.iconst 1, 1) := by decide +kernel
theorem dX5_sendsItem_27 : decode cX5_sendsItem 27 = .ok (.iadd, 1) := by decide +kernel
theorem dX5_sendsItem_28 : decode cX5_sendsItem 28 = .ok (.putfield 141, 3) := by decide +kernel
theorem dX5_sendsItem_31 : decode cX5_sendsItem 31 = .ok (.aload_n 0, 1) := by decide +kernel
theorem dX5_sendsItem_32 : decode cX5_sendsItem 32 = .ok (.iload_n 1, 1) := by decide +kernel
theorem dX5_sendsItem_33 : decode cX5_sendsItem 33 = .ok (.bipush 46, 2) := by decide +kernel
theorem dX5_sendsItem_35 : decode cX5_sendsItem 35 = .ok (.if_icmp .ne 7, 3) := by decide +kernel
theorem dX5_sendsItem_38 : decode cX5_sendsItem 38 = .ok (.iconst 1, 1) := by decide +kernel
theorem dX5_sendsItem_39 : decode cX5_sendsItem 39 = .ok (.goto 4, 3) := by decide +kernel
theorem dX5_sendsItem_42 : decode cX5_sendsItem 42 = .ok (.iconst 0, 1) := by decide +kernel
theorem dX5_sendsItem_43 : decode cX5_sendsItem 43 = .ok (.aload_n 0, 1) := by decide +kernel
theorem dX5_sendsItem_44 : decode cX5_sendsItem 44 = .ok (.invokevirtual 147, 3) := by decide +kernel
theorem dX5_sendsItem_47 : decode cX5_sendsItem 47 = .ok (.invokevirtual 88, 3) := by decide +kernel
theorem dX5_sendsItem_50 : decode cX5_sendsItem 50 = .ok (.ireturn, 1) := by decide +kernel
theorem dX5_sendsItem_51 : decode cX5_sendsItem 51 = .ok (.bipush 16, 2) := by decide +kernel
theorem dX5_sendsItem_53 : decode cX5_sendsItem 53 = .ok (.iload_n 1, 1) := by decide +kernel
theorem dX5_sendsItem_54 : decode cX5_sendsItem 54 = .ok (.invokestatic 150, 3) := by decide +kernel
theorem dX5_sendsItem_57 : decode cX5_sendsItem 57 = .ok (.imul, 1) := by decide +kernel
theorem dX5_sendsItem_58 : decode cX5_sendsItem 58 = .ok (.aload_n 0, 1) := by decide +kernel
theorem dX5_sendsItem_59 : decode cX5_sendsItem 59 = .ok (.aload_n 0, 1) := by decide +kernel
theorem dX5_sendsItem_60 : decode cX5_sendsItem 60 = .ok (.getfield 141, 3) := by decide +kernel
theorem dX5_sendsItem_63 : decode cX5_sendsItem 63 = .ok (.iconst 1, 1) := by decide +kernel
theorem dX5_sendsItem_64 : decode cX5_sendsItem 64 = .ok (.iadd, 1) := by decide +kernel
theorem dX5_sendsItem_65 : decode cX5_sendsItem 65 = .ok (.invokevirtual 144, 3) := by decide +kernel
theorem dX5_sendsItem_68 : decode cX5_sendsItem 68 = .ok (.invokestatic 150, 3) := by decide +kernel
theorem dX5_sendsItem_71 : decode cX5_sendsItem 71 = .ok (.iadd, 1) := by decide +kernel
theorem dX5_sendsItem_72 : decode cX5_sendsItem 72 = .ok (.istore_n 2, 1) := by decide +kernel
theorem dX5_sendsItem_73 : decode cX5_sendsItem 73 = .ok (.aload_n 0, 1) := by decide +kernel
theorem dX5_sendsItem_74 : decode cX5_sendsItem 74 = .ok (.dup, 1) := by decide +kernel
theorem dX5_sendsItem_75 : decode cX5_sendsItem 75 = .ok (.getfield 141, 3) := by decide +kernel
theorem dX5_sendsItem_78 : decode cX5_sendsItem 78 = .ok (.iconst 2, 1) := by decide +kernel
theorem dX5_sendsItem_79 : decode cX5_sendsItem 79 = .ok (.iadd, 1) := by decide +kernel
theorem dX5_sendsItem_80 : decode cX5_sendsItem 80 = .ok (.putfield 141, 3) := by decide +kernel
theorem dX5_sendsItem_83 : decode cX5_sendsItem 83 = .ok (.aload_n 0, 1) := by decide +kernel
theorem dX5_sendsItem_84 : decode cX5_sendsItem 84 = .ok (.iload_n 2, 1) := by decide +kernel
theorem dX5_sendsItem_85 : decode cX5_sendsItem 85 = .ok (.invokevirtual 84, 3) := by decide +kernel
theorem dX5_sendsItem_88 : decode cX5_sendsItem 88 = .ok (.ireturn, 1) := by decide +kernel
set_option maxRecDepth 20000 in
theorem ggX5_goOn_X5_codeAt : GoodIn wsX5_goOn wsX5_codeAt := goodIn_r _ [9, 10, 11, 12, 13, 14, 15, 16, 17, 18, 19, 20, 21, 22, 23, 24, 25, 26, 27, 28, 29, 30, 31] (by decide +kernel) (by decide +kernel)
set_option maxRecDepth 20000 in
theorem gX5_goOn_X5_codeAt : GoodIn wsX5_goOn (wsV RX5 144 RX5 yX5_codeAt wsX5_codeAt) := goodIn_app (goodIn_of _ (by decide +kernel)) ggX5_goOn_X5_codeAt
theorem dX5_goOn_0 : decode cX5_goOn 0 = .ok (.iconst 1, 1) := by decide +kernel
theorem dX5_goOn_1 : decode cX5_goOn 1 = .ok (.istore_n 1, 1) := by decide +kernel
theorem dX5_goOn_2 : decode cX5_goOn 2 = .ok (.iload_n 1, 1) := by decide +kernel
theorem dX5_goOn_3 : decode cX5_goOn 3 = .ok (.ifCond .eq 100, 3) := by decide +kernel
theorem dX5_goOn_6 : decode cX5_goOn 6 = .ok (.aload_n 0, 1) := by decide +kernel
theorem dX5_goOn_7 : decode cX5_goOn 7 = .ok (.aload_n 0, 1) := by decide +kernel
theorem dX5_goOn_8 : decode cX5_goOn 8 = .ok (.getfield 141, 3) := by decide +kernel
theorem dX5_goOn_11 : decode cX5_goOn 11 = .ok (.invokevirtual 144, 3) := by decide +kernel
theorem dX5_goOn_14 : decode cX5_goOn 14 = .ok (.bipush 41, 2) := by decide +kernel
theorem dX5_goOn_16 : decode cX5_goOn 16 = .ok (.if_icmp .ne 87, 3) := by decide +kernel
theorem dX5_goOn_19 : decode cX5_goOn 19 = .ok (.aload_n 0, 1) := by decide +kernel
theorem dX5_goOn_20 : decode cX5_goOn 20 = .ok (.getfield 28, 3) := by decide +kernel
theorem dX5_goOn_23 : decode cX5_goOn 23 = .ok (.aload_n 0, 1) := by decide +kernel
theorem dX5_goOn_24 : decode cX5_goOn 24 = .ok (.getfield 153, 3) := by decide +kernel
theorem dX5_goOn_27 : decode cX5_goOn 27 = .ok (.iconst 1, 1) := by decide +kernel
theorem dX5_goOn_28 : decode cX5_goOn 28 = .ok (.isub, 1) := by decide +kernel
theorem dX5_goOn_29 : decode cX5_goOn 29 = .ok (.dup2, 1) := by decide +kernel
theorem dX5_goOn_30 : decode cX5_goOn 30 = .ok (.iaload, 1) := by decide +kernel
theorem dX5_goOn_31 : decode cX5_goOn 31 = .ok (.iconst 1, 1) := by decide +kernel
theorem dX5_goOn_32 : decode cX5_goOn 32 = .ok (.isub, 1) := by decide +kernel
theorem dX5_goOn_33 : decode cX5_goOn 33 = .ok (.iastore, 1) := by decide +kernel
theorem dX5_goOn_34 : decode cX5_goOn 34 = .ok (.aload_n 0, 1) := by decide +kernel
theorem dX5_goOn_35 : decode cX5_goOn 35 = .ok (.getfield 28, 3) := by decide +kernel
theorem dX5_goOn_38 : decode cX5_goOn 38 = .ok (.aload_n 0, 1) := by decide +kernel
theorem dX5_goOn_39 : decode cX5_goOn 39 = .ok (.getfield 153, 3) := by decide +kernel
theorem dX5_goOn_42 : decode cX5_goOn 42 = .ok (.iconst 1, 1) := by decide +kernel
theorem dX5_goOn_43 : decode cX5_goOn 43 = .ok (.isub, 1) := by decide +kernel
theorem dX5_goOn_44 : decode cX5_goOn 44 = .ok (.iaload, 1) := by decide +kernel
theorem dX5_goOn_45 : decode cX5_goOn 45 = .ok (.ifCond .ne 7, 3) := by decide +kernel
theorem dX5_goOn_48 : decode cX5_goOn 48 = .ok (.iconst 1, 1) := by decide +kernel
theorem dX5_goOn_49 : decode cX5_goOn 49 = .ok (.goto 4, 3) := by decide +kernel
theorem dX5_goOn_52 : decode cX5_goOn 52 = .ok (.iconst 0, 1) := by decide +kernel
theorem dX5_goOn_53 : decode cX5_goOn 53 = .ok (.istore_n 1, 1) := by decide +kernel
theorem dX5_goOn_54 : decode cX5_goOn 54 = .ok (.aload_n 0, 1) := by decide +kernel
theorem dX5_goOn_55 : decode cX5_goOn 55 = .ok (.iload_n 1, 1) := by decide +kernel
theorem dX5_goOn_56 : decode cX5_goOn 56 = .ok (.ifCond .eq 12, 3) := by decide +kernel
theorem dX5_goOn_59 : decode cX5_goOn 59 = .ok (.aload_n 0, 1) := by decide +kernel
theorem dX5_goOn_60 : decode cX5_goOn 60 = .ok (.getfield 141, 3) := by decide +kernel
theorem dX5_goOn_63 : decode cX5_goOn 63 = .ok (.iconst 1, 1) := by decide +kernel
theorem dX5_goOn_64 : decode cX5_goOn 64 = .ok (.iadd, 1) := by decide +kernel
theorem dX5_goOn_65 : decode cX5_goOn 65 = .ok (.goto 14, 3) := by decide +kernel
theorem dX5_goOn_68 : decode cX5_goOn 68 = .ok (.aload_n 0, 1) := by decide +kernel
theorem dX5_goOn_69 : decode cX5_goOn 69 = .ok (.getfield 25, 3) := by decide +kernel
theorem dX5_goOn_72 : decode cX5_goOn 72 = .ok (.aload_n 0, 1) := by decide +kernel
theorem dX5_goOn_73 : decode cX5_goOn 73 = .ok (.getfield 153, 3) := by decide +kernel
theorem dX5_goOn_76 : decode cX5_goOn 76 = .ok (.iconst 1, 1) := by decide +kernel
theorem dX5_goOn_77 : decode cX5_goOn 77 = .ok (.isub, 1) := by decide +kernel
theorem dX5_goOn_78 : decode cX5_goOn 78 = .ok (.iaload, 1) := by decide +kernel
theorem dX5_goOn_79 : decode cX5_goOn 79 = .ok (.putfield 141, 3) := by decide +kernel
theorem dX5_goOn_82 : decode cX5_goOn 82 = .ok (.aload_n 0, 1) := by decide +kernel
theorem dX5_goOn_83 : decode cX5_goOn 83 = .ok (.dup, 1) := by decide +kernel
theorem dX5_goOn_84 : decode cX5_goOn 84 = .ok (.getfield 153, 3) := by decide +kernel
theorem dX5_goOn_87 : decode cX5_goOn 87 = .ok (.iload_n 1, 1) := by decide +kernel
theorem dX5_goOn_88 : decode cX5_goOn 88 = .ok (.ifCond .eq 7, 3) := by decide +kernel
theorem dX5_goOn_91 : decode cX5_goOn 91 = .ok (.iconst 1, 1) := by decide +kernel
theorem dX5_goOn_92 : decode cX5_goOn 92 = .ok (.goto 4, 3) := by decide +kernel
theorem dX5_goOn_95 : decode cX5_goOn 95 = .ok (.iconst 0, 1) := by decide +kernel
theorem dX5_goOn_96 : decode cX5_goOn 96 = .ok (.isub, 1) := by decide +kernel
theorem dX5_goOn_97 : decode cX5_goOn 97 = .ok (.putfield 153, 3) := by decide +kernel
theorem dX5_goOn_100 : decode cX5_goOn 100 = .ok (.goto (-98), 3) := by decide +kernel
theorem dX5_goOn_103 : decode cX5_goOn 103 = .ok (.aload_n 0, 1) := by decide +kernel
theorem dX5_goOn_104 : decode cX5_goOn 104 = .ok (.dup, 1) := by decide +kernel
theorem dX5_goOn_105 : decode cX5_goOn 105 = .ok (.getfield 141, 3) := by decide +kernel
theorem dX5_goOn_108 : decode cX5_goOn 108 = .ok (.iload_n 1, 1) := by decide +kernel
theorem dX5_goOn_109 : decode cX5_goOn 109 = .ok (.ifCond .eq 20, 3) := by decide +kernel
theorem dX5_goOn_112 : decode cX5_goOn 112 = .ok (.aload_n 0, 1) := by decide +kernel
theorem dX5_goOn_113 : decode cX5_goOn 113 = .ok (.aload_n 0, 1) := by decide +kernel
theorem dX5_goOn_114 : decode cX5_goOn 114 = .ok (.getfield 141, 3) := by decide +kernel
theorem dX5_goOn_117 : decode cX5_goOn 117 = .ok (.invokevirtual 144, 3) := by decide +kernel
theorem dX5_goOn_120 : decode cX5_goOn 120 = .ok (.bipush 44, 2) := by decide +kernel
theorem dX5_goOn_122 : decode cX5_goOn 122 = .ok (.if_icmp .ne 7, 3) := by decide +kernel
theorem dX5_goOn_125 : decode cX5_goOn 125 = .ok (.iconst 1, 1) := by decide +kernel
theorem dX5_goOn_126 : decode cX5_goOn 126 = .ok (.goto 4, 3) := by decide +kernel
theorem dX5_goOn_129 : decode cX5_goOn 129 = .ok (.iconst 0, 1) := by decide +kernel
theorem dX5_goOn_130 : decode cX5_goOn 130 = .ok (.iadd, 1) := by decide +kernel
theorem dX5_goOn_131 : decode cX5_goOn 131 = .ok (.putfield 141, 3) := by decide +kernel
theorem dX5_goOn_134 : decode cX5_goOn 134 = .ok (.return_, 1) := by decide +kernel
set_option maxRecDepth 20000 in
theorem ggX5_perform_X5_fault : GoodIn wsX5_perform wsX5_fault := goodIn_r _ [11, 1, 2, 3, 12, 13, 14, 10, 15, 16, 17, 18, 19, 20, 21, 22, 23, 24, 25, 26, 27, 28, 29, 30, 31, 32, 33, 34, 85, 86, 87, 88, 89, 90, 91, 92, 93, 94, 95, 96, 97, 98, 99, 100, 101, 102, 103, 104] (by decide +kernel) (by decide +kernel)
set_option maxRecDepth 20000 in
theorem gX5_perform_X5_fault : GoodIn wsX5_perform (wsV RX5 162 RX5 yX5_fault wsX5_fault) := goodIn_app (goodIn_of _ (by decide +kernel)) ggX5_perform_X5_fault
set_option maxRecDepth 20000 in
theorem ggX5_perform_X5_putAside : GoodIn wsX5_perform wsX5_putAside := goodIn_r _ [38, 39, 6, 85, 86, 87, 88, 89, 90, 91, 92, 93, 94, 95, 96, 97, 98, 99, 100, 101, 102, 103, 104] (by decide +kernel) (by decide +kernel)
set_option maxRecDepth 20000 in
theorem gX5_perform_X5_putAside : GoodIn wsX5_perform (wsV RX5 50 RX5 yX5_putAside wsX5_putAside) := goodIn_app (goodIn_of _ (by decide +kernel)) ggX5_perform_X5_putAside
set_option maxRecDepth 20000 in
theorem ggX5_perform_X5_isRepeat : GoodIn wsX5_perform wsX5_isRepeat := goodIn_r _ [15, 1, 16, 17, 18, 10, 19, 3, 20, 21, 22, 23, 85, 86, 87, 88, 89, 90, 91, 92, 93, 94, 95, 96, 97, 98, 99, 100, 101, 102, 103, 104] (by decide +kernel) (by decide +kernel)
set_option maxRecDepth 20000 in
theorem gX5_perform_X5_isRepeat : GoodIn wsX5_perform (wsV RX5 156 RX5 yX5_isRepeat wsX5_isRepeat) := goodIn_app (goodIn_of _ (by decide +kernel)) ggX5_perform_X5_isRepeat
set_option maxRecDepth 20000 in
theorem ggX5_perform_X5_codeAt : GoodIn wsX5_perform wsX5_codeAt := goodIn_r _ [19, 3, 20, 85, 86, 87, 88, 89, 90, 91, 92, 93, 94, 95, 96, 97, 98, 99, 100, 101, 102, 103, 104] (by decide +kernel) (by decide +kernel)
set_option maxRecDepth 20000 in
theorem gX5_perform_X5_codeAt : GoodIn wsX5_perform (wsV RX5 144 RX5 yX5_codeAt wsX5_codeAt) := goodIn_app (goodIn_of _ (by decide +kernel)) ggX5_perform_X5_codeAt
set_option maxRecDepth 20000 in
theorem ggX5_perform_X5_sendsItem : GoodIn wsX5_perform wsX5_sendsItem := goodIn_r _ [43, 1, 16, 17, 18, 10, 19, 3, 20, 28, 29, 30, 31, 21, 22, 23, 44, 45, 46, 47, 6, 32, 33, 34, 48, 49, 50, 51, 52, 53, 54, 55, 56, 57, 58, 59, 60, 61, 62, 63, 64, 65, 66, 67, 68, 69, 70, 85, 86, 87, 88, 89, 90, 91, 92, 93, 94, 95, 96, 97, 98, 99, 100, 101, 102, 103, 104] (by decide +kernel) (by decide +kernel)
set_option maxRecDepth 20000 in
theorem gX5_perform_X5_sendsItem : GoodIn wsX5_perform (wsV RX5 165 RX5 yX5_sendsItem wsX5_sendsItem) := goodIn_app (goodIn_of _ (by decide +kernel)) ggX5_perform_X5_sendsItem
set_option maxRecDepth 20000 in
theorem ggX5_perform_X5_takeBack : GoodIn wsX5_perform wsX5_takeBack := goodIn_r _ [74, 6, 39, 85, 86, 87, 88, 89, 90, 91, 92, 93, 94, 95, 96, 97, 98, 99, 100, 101, 102, 103, 104] (by decide +kernel) (by decide +kernel)
set_option maxRecDepth 20000 in
theorem gX5_perform_X5_takeBack : GoodIn wsX5_perform (wsV RX5 168 RX5 yX5_takeBack wsX5_takeBack) := goodIn_app (goodIn_of _ (by decide +kernel)) ggX5_perform_X5_takeBack
set_option maxRecDepth 20000 in
theorem ggX5_perform_X5_goOn : GoodIn wsX5_perform wsX5_goOn := goodIn_r _ [78, 1, 4, 2, 5, 16, 17, 18, 10, 19, 3, 20, 85, 86, 87, 88, 89, 90, 91, 92, 93, 94, 95, 96, 97, 98, 99, 100, 101, 102, 103, 104] (by decide +kernel) (by decide +kernel)
set_option maxRecDepth 20000 in
theorem gX5_perform_X5_goOn : GoodIn wsX5_perform (wsV RX5 171 RX5 yX5_goOn wsX5_goOn) := goodIn_app (goodIn_of _ (by decide +kernel)) ggX5_perform_X5_goOn
set_option maxRecDepth 20000 in
theorem ggX5_perform_X5_push : GoodIn wsX5_perform wsX5_push := goodIn_r _ [82, 83, 84, 39, 85, 86, 87, 88, 89, 90, 91, 92, 93, 94, 95, 96, 97, 98, 99, 100, 101, 102, 103, 104] (by decide +kernel) (by decide +kernel)
set_option maxRecDepth 20000 in
theorem gX5_perform_X5_push : GoodIn wsX5_perform (wsV RX5 53 RX5 yX5_push wsX5_push) := goodIn_app (goodIn_of _ (by decide +kernel)) ggX5_perform_X5_push
theorem dX5_perform_0 : decode cX5_perform 0 = .ok (.aload_n 0, 1) := by decide +kernel
theorem dX5_perform_1 : decode cX5_perform 1 = .ok (.invokevirtual 162, 3) := by decide +kernel
theorem dX5_perform_4 : decode cX5_perform 4 = .ok (.istore_n 1, 1) := by decide +kernel
theorem dX5_perform_5 : decode cX5_perform 5 = .ok (.iload_n 1, 1) := by decide +kernel
theorem dX5_perform_6 : decode cX5_perform 6 = .ok (.bipush (-5), 2) := by decide +kernel
theorem dX5_perform_8 : decode cX5_perform 8 = .ok (.if_icmp .eq 8, 3) := by decide +kernel
theorem dX5_perform_11 : decode cX5_perform 11 = .ok (.bipush (-100), 2) := by decide +kernel
theorem dX5_perform_13 : decode cX5_perform 13 = .ok (.iload_n 1, 1) := by decide +kernel
theorem dX5_perform_14 : decode cX5_perform 14 = .ok (.isub, 1) := by decide +kernel
theorem dX5_perform_15 : decode cX5_perform 15 = .ok (.ireturn, 1) := by decide +kernel
theorem dX5_perform_16 : decode cX5_perform 16 = .ok (.aload_n 0, 1) := by decide +kernel
theorem dX5_perform_17 : decode cX5_perform 17 = .ok (.invokevirtual 50, 3) := by decide +kernel
theorem dX5_perform_20 : decode cX5_perform 20 = .ok (.aload_n 0, 1) := by decide +kernel
theorem dX5_perform_21 : decode cX5_perform 21 = .ok (.iconst 0, 1) := by decide +kernel
theorem dX5_perform_22 : decode cX5_perform 22 = .ok (.putfield 141, 3) := by decide +kernel
theorem dX5_perform_25 : decode cX5_perform 25 = .ok (.aload_n 0, 1) := by decide +kernel
theorem dX5_perform_26 : decode cX5_perform 26 = .ok (.iconst 0, 1) := by decide +kernel
theorem dX5_perform_27 : decode cX5_perform 27 = .ok (.putfield 153, 3) := by decide +kernel
theorem dX5_perform_30 : decode cX5_perform 30 = .ok (.aload_n 0, 1) := by decide +kernel
theorem dX5_perform_31 : decode cX5_perform 31 = .ok (.getfield 141, 3) := by decide +kernel
theorem dX5_perform_34 : decode cX5_perform 34 = .ok (.aload_n 0, 1) := by decide +kernel
theorem dX5_perform_35 : decode cX5_perform 35 = .ok (.getfield 138, 3) := by decide +kernel
theorem dX5_perform_38 : decode cX5_perform 38 = .ok (.if_icmp .ge 89, 3) := by decide +kernel
theorem dX5_perform_41 : decode cX5_perform 41 = .ok (.aload_n 0, 1) := by decide +kernel
theorem dX5_perform_42 : decode cX5_perform 42 = .ok (.invokevirtual 156, 3) := by decide +kernel
theorem dX5_perform_45 : decode cX5_perform 45 = .ok (.ifCond .eq 61, 3) := by decide +kernel
theorem dX5_perform_48 : decode cX5_perform 48 = .ok (.aload_n 0, 1) := by decide +kernel
theorem dX5_perform_49 : decode cX5_perform 49 = .ok (.getfield 28, 3) := by decide +kernel
theorem dX5_perform_52 : decode cX5_perform 52 = .ok (.aload_n 0, 1) := by decide +kernel
theorem dX5_perform_53 : decode cX5_perform 53 = .ok (.getfield 153, 3) := by decide +kernel
theorem dX5_perform_56 : decode cX5_perform 56 = .ok (.aload_n 0, 1) := by decide +kernel
theorem dX5_perform_57 : decode cX5_perform 57 = .ok (.aload_n 0, 1) := by decide +kernel
theorem dX5_perform_58 : decode cX5_perform 58 = .ok (.getfield 141, 3) := by decide +kernel
theorem dX5_perform_61 : decode cX5_perform 61 = .ok (.invokevirtual 144, 3) := by decide +kernel
theorem dX5_perform_64 : decode cX5_perform 64 = .ok (.bipush 48, 2) := by decide +kernel
theorem dX5_perform_66 : decode cX5_perform 66 = .ok (.isub, 1) := by decide +kernel
theorem dX5_perform_67 : decode cX5_perform 67 = .ok (.iastore, 1) := by decide +kernel
theorem dX5_perform_68 : decode cX5_perform 68 = .ok (.aload_n 0, 1) := by decide +kernel
theorem dX5_perform_69 : decode cX5_perform 69 = .ok (.getfield 25, 3) := by decide +kernel
theorem dX5_perform_72 : decode cX5_perform 72 = .ok (.aload_n 0, 1) := by decide +kernel
theorem dX5_perform_73 : decode cX5_perform 73 = .ok (.getfield 153, 3) := by decide +kernel
theorem dX5_perform_76 : decode cX5_perform 76 = .ok (.aload_n 0, 1) := by decide +kernel
theorem dX5_perform_77 : decode cX5_perform 77 = .ok (.getfield 141, 3) := by decide +kernel
theorem dX5_perform_80 : decode cX5_perform 80 = .ok (.iconst 2, 1) := by decide +kernel
theorem dX5_perform_81 : decode cX5_perform 81 = .ok (.iadd, 1) := by decide +kernel
theorem dX5_perform_82 : decode cX5_perform 82 = .ok (.iastore, 1) := by decide +kernel
theorem dX5_perform_83 : decode cX5_perform 83 = .ok (.aload_n 0, 1) := by decide +kernel
theorem dX5_perform_84 : decode cX5_perform 84 = .ok (.dup, 1) := by decide +kernel
theorem dX5_perform_85 : decode cX5_perform 85 = .ok (.getfield 153, 3) := by decide +kernel
theorem dX5_perform_88 : decode cX5_perform 88 = .ok (.iconst 1, 1) := by decide +kernel
theorem dX5_perform_89 : decode cX5_perform 89 = .ok (.iadd, 1) := by decide +kernel
theorem dX5_perform_90 : decode cX5_perform 90 = .ok (.putfield 153, 3) := by decide +kernel
theorem dX5_perform_93 : decode cX5_perform 93 = .ok (.aload_n 0, 1) := by decide +kernel
theorem dX5_perform_94 : decode cX5_perform 94 = .ok (.dup, 1) := by decide +kernel
theorem dX5_perform_95 : decode cX5_perform 95 = .ok (.getfield 141, 3) := by decide +kernel
theorem dX5_perform_98 : decode cX5_perform 98 = .ok (.iconst 2, 1) := by decide +kernel
theorem dX5_perform_99 : decode cX5_perform 99 = .ok (.iadd, 1) := by decide +kernel
theorem dX5_perform_100 : decode cX5_perform 100 = .ok (.putfield 141, 3) := by decide +kernel
theorem dX5_perform_103 : decode cX5_perform 103 = .ok (.goto (-62), 3) := by decide +kernel
theorem dX5_perform_106 : decode cX5_perform 106 = .ok (.aload_n 0, 1) := by decide +kernel
theorem dX5_perform_107 : decode cX5_perform 107 = .ok (.invokevirtual 165, 3) := by decide +kernel
theorem dX5_perform_110 : decode cX5_perform 110 = .ok (.ifCond .ne 10, 3) := by decide +kernel
theorem dX5_perform_113 : decode cX5_perform 113 = .ok (.aload_n 0, 1) := by decide +kernel
theorem dX5_perform_114 : decode cX5_perform 114 = .ok (.invokevirtual 168, 3) := by decide +kernel
theorem dX5_perform_117 : decode cX5_perform 117 = .ok (.bipush (-3), 2) := by decide +kernel
theorem dX5_perform_119 : decode cX5_perform 119 = .ok (.ireturn, 1) := by decide +kernel
theorem dX5_perform_120 : decode cX5_perform 120 = .ok (.aload_n 0, 1) := by decide +kernel
theorem dX5_perform_121 : decode cX5_perform 121 = .ok (.invokevirtual 171, 3) := by decide +kernel
theorem dX5_perform_124 : decode cX5_perform 124 = .ok (.goto (-94), 3) := by decide +kernel
theorem dX5_perform_127 : decode cX5_perform 127 = .ok (.aload_n 0, 1) := by decide +kernel
theorem dX5_perform_128 : decode cX5_perform 128 = .ok (.invokevirtual 53, 3) := by decide +kernel
theorem dX5_perform_131 : decode cX5_perform 131 = .ok (.aload_n 0, 1) := by decide +kernel
theorem dX5_perform_132 : decode cX5_perform 132 = .ok (.getfield 7, 3) := by decide +kernel
theorem dX5_perform_135 : decode cX5_perform 135 = .ok (.iconst 5, 1) := by decide +kernel
theorem dX5_perform_136 : decode cX5_perform 136 = .ok (.iaload, 1) := by decide +kernel
theorem dX5_perform_137 : decode cX5_perform 137 = .ok (.ireturn, 1) := by decide +kernel
set_option maxRecDepth 20000 in
theorem ggX5_level_X5_levelAt : GoodIn wsX5_level wsX5_levelAt := goodIn_r _ [5, 6, 7, 8, 9, 10, 11, 12, 13, 14, 15, 16, 17, 18, 19, 20, 21, 22, 23, 24, 25, 26] (by decide +kernel) (by decide +kernel)
set_option maxRecDepth 20000 in
theorem gX5_level_X5_levelAt : GoodIn wsX5_level (wsV RX5 106 RX5 yX5_levelAt wsX5_levelAt) := goodIn_app (goodIn_of _ (by decide +kernel)) ggX5_level_X5_levelAt
theorem dX5_level_0 : decode cX5_level 0 = .ok (.iload_n 1, 1) := by decide +kernel
theorem dX5_level_1 : decode cX5_level 1 = .ok (.ifCond .ge 8, 3) := by decide +kernel
theorem dX5_level_4 : decode cX5_level 4 = .ok (.bipush (-2), 2) := by decide +kernel
theorem dX5_level_6 : decode cX5_level 6 = .ok (.goto 8, 3) := by decide +kernel
theorem dX5_level_9 : decode cX5_level 9 = .ok (.aload_n 0, 1) := by decide +kernel
theorem dX5_level_10 : decode cX5_level 10 = .ok (.iload_n 1, 1) := by decide +kernel
theorem dX5_level_11 : decode cX5_level 11 = .ok (.invokevirtual 106, 3) := by decide +kernel
theorem dX5_level_14 : decode cX5_level 14 = .ok (.ireturn, 1) := by decide +kernel
set_option maxRecDepth 20000 in
theorem ggX5_fall_X5_fallOf : GoodIn wsX5_fall wsX5_fallOf := goodIn_r _ [5, 6, 7, 8, 9, 4, 10, 11, 12, 13, 14, 15, 16, 17, 18, 19, 20, 21, 22, 23, 24, 25, 26, 27, 28, 29, 30, 31, 32, 33, 34] (by decide +kernel) (by decide +kernel)
set_option maxRecDepth 20000 in
theorem gX5_fall_X5_fallOf : GoodIn wsX5_fall (wsV RX5 135 RX5 yX5_fallOf wsX5_fallOf) := goodIn_app (goodIn_of _ (by decide +kernel)) ggX5_fall_X5_fallOf
theorem dX5_fall_0 : decode cX5_fall 0 = .ok (.iload_n 1, 1) := by decide +kernel
theorem dX5_fall_1 : decode cX5_fall 1 = .ok (.ifCond .ge 8, 3) := by decide +kernel
theorem dX5_fall_4 : decode cX5_fall 4 = .ok (.bipush (-2), 2) := by decide +kernel
theorem dX5_fall_6 : decode cX5_fall 6 = .ok (.goto 8, 3) := by decide +kernel
theorem dX5_fall_9 : decode cX5_fall 9 = .ok (.aload_n 0, 1) := by decide +kernel
theorem dX5_fall_10 : decode cX5_fall 10 = .ok (.iload_n 1, 1) := by decide +kernel
theorem dX5_fall_11 : decode cX5_fall 11 = .ok (.invokevirtual 135, 3) := by decide +kernel
theorem dX5_fall_14 : decode cX5_fall 14 = .ok (.ireturn, 1) := by decide +kernel
theorem dX5_sent_0 : decode cX5_sent 0 = .ok (.iload_n 1, 1) := by decide +kernel
theorem dX5_sent_1 : decode cX5_sent 1 = .ok (.ifCond .ge 6, 3) := by decide +kernel
theorem dX5_sent_4 : decode cX5_sent 4 = .ok (.bipush (-2), 2) := by decide +kernel
theorem dX5_sent_6 : decode cX5_sent 6 = .ok (.ireturn, 1) := by decide +kernel
theorem dX5_sent_7 : decode cX5_sent 7 = .ok (.iload_n 1, 1) := by decide +kernel
theorem dX5_sent_8 : decode cX5_sent 8 = .ok (.aload_n 0, 1) := by decide +kernel
theorem dX5_sent_9 : decode cX5_sent 9 = .ok (.getfield 7, 3) := by decide +kernel
theorem dX5_sent_12 : decode cX5_sent 12 = .ok (.bipush 6, 2) := by decide +kernel
theorem dX5_sent_14 : decode cX5_sent 14 = .ok (.iaload, 1) := by decide +kernel
theorem dX5_sent_15 : decode cX5_sent 15 = .ok (.if_icmp .ge 15, 3) := by decide +kernel
theorem dX5_sent_18 : decode cX5_sent 18 = .ok (.aload_n 0, 1) := by decide +kernel
theorem dX5_sent_19 : decode cX5_sent 19 = .ok (.getfield 7, 3) := by decide +kernel
theorem dX5_sent_22 : decode cX5_sent 22 = .ok (.bipush 7, 2) := by decide +kernel
theorem dX5_sent_24 : decode cX5_sent 24 = .ok (.iload_n 1, 1) := by decide +kernel
theorem dX5_sent_25 : decode cX5_sent 25 = .ok (.iadd, 1) := by decide +kernel
theorem dX5_sent_26 : decode cX5_sent 26 = .ok (.iaload, 1) := by decide +kernel
theorem dX5_sent_27 : decode cX5_sent 27 = .ok (.goto 5, 3) := by decide +kernel
theorem dX5_sent_30 : decode cX5_sent 30 = .ok (.bipush (-5), 2) := by decide +kernel
theorem dX5_sent_32 : decode cX5_sent 32 = .ok (.ireturn, 1) := by decide +kernel
set_option maxRecDepth 20000 in
theorem ggX5_received_X5_within : GoodIn wsX5_received wsX5_within := goodIn_r _ [11] (by decide +kernel) (by decide +kernel)
set_option maxRecDepth 20000 in
theorem gX5_received_X5_within : GoodIn wsX5_received (va_wsS RX5 80 yX5_within wsX5_within) := goodIn_app (goodIn_of _ (by decide +kernel)) ggX5_received_X5_within
set_option maxRecDepth 20000 in
theorem ggX5_received_X5_receive : GoodIn wsX5_received wsX5_receive := goodIn_r _ [15, 2, 16, 17, 1, 7, 3, 6, 18, 19, 20, 10, 21, 22, 23, 24, 25, 26, 27, 28, 29, 4, 5, 30, 31, 32, 33, 34, 35, 36, 37, 38, 39, 40, 41, 42, 43, 44, 45, 46, 47, 48, 49, 50, 51, 52, 53, 54, 55, 56, 57, 58, 59, 60] (by decide +kernel) (by decide +kernel)
set_option maxRecDepth 20000 in
theorem gX5_received_X5_receive : GoodIn wsX5_received (wsV RX5 127 RX5 yX5_receive wsX5_receive) := goodIn_app (goodIn_of _ (by decide +kernel)) ggX5_received_X5_receive
theorem dX5_received_0 : decode cX5_received 0 = .ok (.iload_n 1, 1) := by decide +kernel
theorem dX5_received_1 : decode cX5_received 1 = .ok (.ifCond .lt 12, 3) := by decide +kernel
theorem dX5_received_4 : decode cX5_received 4 = .ok (.iload_n 2, 1) := by decide +kernel
theorem dX5_received_5 : decode cX5_received 5 = .ok (.iconst 0, 1) := by decide +kernel
theorem dX5_received_6 : decode cX5_received 6 = .ok (.iconst 4, 1) := by decide +kernel
theorem dX5_received_7 : decode cX5_received 7 = .ok (.invokestatic 80, 3) := by decide +kernel
theorem dX5_received_10 : decode cX5_received 10 = .ok (.ifCond .ne 6, 3) := by decide +kernel
theorem dX5_received_13 : decode cX5_received 13 = .ok (.bipush (-2), 2) := by decide +kernel
theorem dX5_received_15 : decode cX5_received 15 = .ok (.ireturn, 1) := by decide +kernel
theorem dX5_received_16 : decode cX5_received 16 = .ok (.aload_n 0, 1) := by decide +kernel
theorem dX5_received_17 : decode cX5_received 17 = .ok (.aload_n 0, 1) := by decide +kernel
theorem dX5_received_18 : decode cX5_received 18 = .ok (.getfield 7, 3) := by decide +kernel
theorem dX5_received_21 : decode cX5_received 21 = .ok (.iconst 1, 1) := by decide +kernel
theorem dX5_received_22 : decode cX5_received 22 = .ok (.iaload, 1) := by decide +kernel
theorem dX5_received_23 : decode cX5_received 23 = .ok (.invokevirtual 127, 3) := by decide +kernel
theorem dX5_received_26 : decode cX5_received 26 = .ok (.iload_n 1, 1) := by decide +kernel
theorem dX5_received_27 : decode cX5_received 27 = .ok (.aload_n 0, 1) := by decide +kernel
theorem dX5_received_28 : decode cX5_received 28 = .ok (.getfield 109, 3) := by decide +kernel
theorem dX5_received_31 : decode cX5_received 31 = .ok (.if_icmp .lt 6, 3) := by decide +kernel
theorem dX5_received_34 : decode cX5_received 34 = .ok (.bipush (-5), 2) := by decide +kernel
theorem dX5_received_36 : decode cX5_received 36 = .ok (.ireturn, 1) := by decide +kernel
theorem dX5_received_37 : decode cX5_received 37 = .ok (.iload_n 2, 1) := by decide +kernel
theorem dX5_received_38 : decode cX5_received 38 = .ok (.tableswitch 58 0 3 #[30, 37, 44, 51], 30) := by decide +kernel
theorem dX5_received_68 : decode cX5_received 68 = .ok (.aload_n 0, 1) := by decide +kernel
theorem dX5_received_69 : decode cX5_received 69 = .ok (.getfield 31, 3) := by decide +kernel
theorem dX5_received_72 : decode cX5_received 72 = .ok (.iload_n 1, 1) := by decide +kernel
theorem dX5_received_73 : decode cX5_received 73 = .ok (.iaload, 1) := by decide +kernel
theorem dX5_received_74 : decode cX5_received 74 = .ok (.ireturn, 1) := by decide +kernel
theorem dX5_received_75 : decode cX5_received 75 = .ok (.aload_n 0, 1) := by decide +kernel
theorem dX5_received_76 : decode cX5_received 76 = .ok (.getfield 34, 3) := by decide +kernel
theorem dX5_received_79 : decode cX5_received 79 = .ok (.iload_n 1, 1) := by decide +kernel
theorem dX5_received_80 : decode cX5_received 80 = .ok (.iaload, 1) := by decide +kernel
theorem dX5_received_81 : decode cX5_received 81 = .ok (.ireturn, 1) := by decide +kernel
theorem dX5_received_82 : decode cX5_received 82 = .ok (.aload_n 0, 1) := by decide +kernel
theorem dX5_received_83 : decode cX5_received 83 = .ok (.getfield 37, 3) := by decide +kernel
theorem dX5_received_86 : decode cX5_received 86 = .ok (.iload_n 1, 1) := by decide +kernel
theorem dX5_received_87 : decode cX5_received 87 = .ok (.iaload, 1) := by decide +kernel
theorem dX5_received_88 : decode cX5_received 88 = .ok (.ireturn, 1) := by decide +kernel
theorem dX5_received_89 : decode cX5_received 89 = .ok (.aload_n 0, 1) := by decide +kernel
theorem dX5_received_90 : decode cX5_received 90 = .ok (.getfield 40, 3) := by decide +kernel
theorem dX5_received_93 : decode cX5_received 93 = .ok (.iload_n 1, 1) := by decide +kernel
theorem dX5_received_94 : decode cX5_received 94 = .ok (.iaload, 1) := by decide +kernel
theorem dX5_received_95 : decode cX5_received 95 = .ok (.ireturn, 1) := by decide +kernel
theorem dX5_received_96 : decode cX5_received 96 = .ok (.aload_n 0, 1) := by decide +kernel
theorem dX5_received_97 : decode cX5_received 97 = .ok (.getfield 43, 3) := by decide +kernel
theorem dX5_received_100 : decode cX5_received 100 = .ok (.iload_n 1, 1) := by decide +kernel
theorem dX5_received_101 : decode cX5_received 101 = .ok (.iaload, 1) := by decide +kernel
theorem dX5_received_102 : decode cX5_received 102 = .ok (.ireturn, 1) := by decide +kernel
set_option maxRecDepth 20000 in
theorem ggX5_falls_X5_isFall : GoodIn wsX5_falls wsX5_isFall := goodIn_r _ [6, 7, 8, 9, 5, 10, 1, 11, 12, 13, 14, 15, 16, 17, 18, 19, 20, 21, 22, 23, 24, 25, 26, 27, 28, 29, 30] (by decide +kernel) (by decide +kernel)
set_option maxRecDepth 20000 in
theorem gX5_falls_X5_isFall : GoodIn wsX5_falls (wsV RX5 121 RX5 yX5_isFall wsX5_isFall) := goodIn_app (goodIn_of _ (by decide +kernel)) ggX5_falls_X5_isFall
theorem dX5_falls_0 : decode cX5_falls 0 = .ok (.iconst 0, 1) := by decide +kernel
theorem dX5_falls_1 : decode cX5_falls 1 = .ok (.istore_n 1, 1) := by decide +kernel
theorem dX5_falls_2 : decode cX5_falls 2 = .ok (.iconst 0, 1) := by decide +kernel
theorem dX5_falls_3 : decode cX5_falls 3 = .ok (.istore_n 2, 1) := by decide +kernel
theorem dX5_falls_4 : decode cX5_falls 4 = .ok (.iload_n 2, 1) := by decide +kernel
theorem dX5_falls_5 : decode cX5_falls 5 = .ok (.aload_n 0, 1) := by decide +kernel
theorem dX5_falls_6 : decode cX5_falls 6 = .ok (.getfield 7, 3) := by decide +kernel
theorem dX5_falls_9 : decode cX5_falls 9 = .ok (.iconst 5, 1) := by decide +kernel
theorem dX5_falls_10 : decode cX5_falls 10 = .ok (.iaload, 1) := by decide +kernel
theorem dX5_falls_11 : decode cX5_falls 11 = .ok (.if_icmp .ge 25, 3) := by decide +kernel
theorem dX5_falls_14 : decode cX5_falls 14 = .ok (.iload_n 1, 1) := by decide +kernel
theorem dX5_falls_15 : decode cX5_falls 15 = .ok (.aload_n 0, 1) := by decide +kernel
theorem dX5_falls_16 : decode cX5_falls 16 = .ok (.iload_n 2, 1) := by decide +kernel
theorem dX5_falls_17 : decode cX5_falls 17 = .ok (.invokevirtual 121, 3) := by decide +kernel
theorem dX5_falls_20 : decode cX5_falls 20 = .ok (.ifCond .eq 7, 3) := by decide +kernel
theorem dX5_falls_23 : decode cX5_falls 23 = .ok (.iconst 1, 1) := by decide +kernel
theorem dX5_falls_24 : decode cX5_falls 24 = .ok (.goto 4, 3) := by decide +kernel
theorem dX5_falls_27 : decode cX5_falls 27 = .ok (.iconst 0, 1) := by decide +kernel
theorem dX5_falls_28 : decode cX5_falls 28 = .ok (.iadd, 1) := by decide +kernel
theorem dX5_falls_29 : decode cX5_falls 29 = .ok (.istore_n 1, 1) := by decide +kernel
theorem dX5_falls_30 : decode cX5_falls 30 = .ok (.iinc 2 1, 3) := by decide +kernel
theorem dX5_falls_33 : decode cX5_falls 33 = .ok (.goto (-29), 3) := by decide +kernel
theorem dX5_falls_36 : decode cX5_falls 36 = .ok (.iload_n 1, 1) := by decide +kernel
theorem dX5_falls_37 : decode cX5_falls 37 = .ok (.ireturn, 1) := by decide +kernel
set_option maxRecDepth 20000 in
theorem ggX5_zeros_X5_levelAt : GoodIn wsX5_zeros wsX5_levelAt := goodIn_r _ [6, 1, 7, 8, 9, 10, 11, 12, 13, 14, 15, 16, 17, 18, 19, 20, 21, 22, 23, 24, 25, 26] (by decide +kernel) (by decide +kernel)
set_option maxRecDepth 20000 in
theorem gX5_zeros_X5_levelAt : GoodIn wsX5_zeros (wsV RX5 106 RX5 yX5_levelAt wsX5_levelAt) := goodIn_app (goodIn_of _ (by decide +kernel)) ggX5_zeros_X5_levelAt
theorem dX5_zeros_0 : decode cX5_zeros 0 = .ok (.iconst 0, 1) := by decide +kernel
theorem dX5_zeros_1 : decode cX5_zeros 1 = .ok (.istore_n 1, 1) := by decide +kernel
theorem dX5_zeros_2 : decode cX5_zeros 2 = .ok (.iconst 0, 1) := by decide +kernel
theorem dX5_zeros_3 : decode cX5_zeros 3 = .ok (.istore_n 2, 1) := by decide +kernel
theorem dX5_zeros_4 : decode cX5_zeros 4 = .ok (.iload_n 2, 1) := by decide +kernel
theorem dX5_zeros_5 : decode cX5_zeros 5 = .ok (.aload_n 0, 1) := by decide +kernel
theorem dX5_zeros_6 : decode cX5_zeros 6 = .ok (.getfield 7, 3) := by decide +kernel
theorem dX5_zeros_9 : decode cX5_zeros 9 = .ok (.iconst 5, 1) := by decide +kernel
theorem dX5_zeros_10 : decode cX5_zeros 10 = .ok (.iaload, 1) := by decide +kernel
theorem dX5_zeros_11 : decode cX5_zeros 11 = .ok (.if_icmp .ge 19, 3) := by decide +kernel
theorem dX5_zeros_14 : decode cX5_zeros 14 = .ok (.iload_n 1, 1) := by decide +kernel
theorem dX5_zeros_15 : decode cX5_zeros 15 = .ok (.iconst 1, 1) := by decide +kernel
theorem dX5_zeros_16 : decode cX5_zeros 16 = .ok (.aload_n 0, 1) := by decide +kernel
theorem dX5_zeros_17 : decode cX5_zeros 17 = .ok (.iload_n 2, 1) := by decide +kernel
theorem dX5_zeros_18 : decode cX5_zeros 18 = .ok (.invokevirtual 106, 3) := by decide +kernel
theorem dX5_zeros_21 : decode cX5_zeros 21 = .ok (.isub, 1) := by decide +kernel
theorem dX5_zeros_22 : decode cX5_zeros 22 = .ok (.iadd, 1) := by decide +kernel
theorem dX5_zeros_23 : decode cX5_zeros 23 = .ok (.istore_n 1, 1) := by decide +kernel
theorem dX5_zeros_24 : decode cX5_zeros 24 = .ok (.iinc 2 1, 3) := by decide +kernel
theorem dX5_zeros_27 : decode cX5_zeros 27 = .ok (.goto (-23), 3) := by decide +kernel
theorem dX5_zeros_30 : decode cX5_zeros 30 = .ok (.iload_n 1, 1) := by decide +kernel
theorem dX5_zeros_31 : decode cX5_zeros 31 = .ok (.ireturn, 1) := by decide +kernel
set_option maxRecDepth 20000 in
theorem ggX5_tellsReceived_X5_receive : GoodIn wsX5_tellsReceived wsX5_receive := goodIn_r _ [9, 2, 3, 4, 1, 10, 11, 12, 13, 14, 15, 8, 16, 17, 18, 19, 20, 21, 22, 23, 24, 25, 26, 27, 28, 29, 30, 31, 32, 33, 34, 35, 36, 37, 46, 47, 48, 49, 50, 51, 52, 53, 54, 55, 56, 57, 58, 59, 60, 61, 62, 63, 64, 65] (by decide +kernel) (by decide +kernel)
set_option maxRecDepth 20000 in
theorem gX5_tellsReceived_X5_receive : GoodIn wsX5_tellsReceived (wsV RX5 127 RX5 yX5_receive wsX5_receive) := goodIn_app (goodIn_of _ (by decide +kernel)) ggX5_tellsReceived_X5_receive
set_option maxRecDepth 20000 in
theorem ggX5_tellsReceived_X5_isWell : GoodIn wsX5_tellsReceived wsX5_isWell := goodIn_r _ [41, 2, 1, 11, 25, 46, 47, 48, 49, 50, 51, 52, 53, 54, 55, 56, 57, 58, 59, 60, 61, 62, 63, 64, 65] (by decide +kernel) (by decide +kernel)
set_option maxRecDepth 20000 in
theorem gX5_tellsReceived_X5_isWell : GoodIn wsX5_tellsReceived (wsV RX5 131 RX5 yX5_isWell wsX5_isWell) := goodIn_app (goodIn_of _ (by decide +kernel)) ggX5_tellsReceived_X5_isWell
set_option maxRecDepth 20000 in
theorem ggX5_tellsReceived_X5_ofKind : GoodIn wsX5_tellsReceived wsX5_ofKind := goodIn_r _ [45, 2, 11, 46, 47, 48, 49, 50, 51, 52, 53, 54, 55, 56, 57, 58, 59, 60, 61, 62, 63, 64, 65] (by decide +kernel) (by decide +kernel)
set_option maxRecDepth 20000 in
theorem gX5_tellsReceived_X5_ofKind : GoodIn wsX5_tellsReceived (wsV RX5 174 RX5 yX5_ofKind wsX5_ofKind) := goodIn_app (goodIn_of _ (by decide +kernel)) ggX5_tellsReceived_X5_ofKind
theorem dX5_tellsReceived_0 : decode cX5_tellsReceived 0 = .ok (.aload_n 0, 1) := by decide +kernel
theorem dX5_tellsReceived_1 : decode cX5_tellsReceived 1 = .ok (.aload_n 0, 1) := by decide +kernel
theorem dX5_tellsReceived_2 : decode cX5_tellsReceived 2 = .ok (.getfield 7, 3) := by decide +kernel
theorem dX5_tellsReceived_5 : decode cX5_tellsReceived 5 = .ok (.iconst 1, 1) := by decide +kernel
theorem dX5_tellsReceived_6 : decode cX5_tellsReceived 6 = .ok (.iaload, 1) := by decide +kernel
theorem dX5_tellsReceived_7 : decode cX5_tellsReceived 7 = .ok (.invokevirtual 127, 3) := by decide +kernel
theorem dX5_tellsReceived_10 : decode cX5_tellsReceived 10 = .ok (.iload_n 1, 1) := by decide +kernel
theorem dX5_tellsReceived_11 : decode cX5_tellsReceived 11 = .ok (.tableswitch 73 7 14 #[45, 73, 73, 73, 73, 50, 55, 60], 45) := by decide +kernel
theorem dX5_tellsReceived_56 : decode cX5_tellsReceived 56 = .ok (.aload_n 0, 1) := by decide +kernel
theorem dX5_tellsReceived_57 : decode cX5_tellsReceived 57 = .ok (.getfield 109, 3) := by decide +kernel
theorem dX5_tellsReceived_60 : decode cX5_tellsReceived 60 = .ok (.ireturn, 1) := by decide +kernel
theorem dX5_tellsReceived_61 : decode cX5_tellsReceived 61 = .ok (.aload_n 0, 1) := by decide +kernel
theorem dX5_tellsReceived_62 : decode cX5_tellsReceived 62 = .ok (.getfield 115, 3) := by decide +kernel
theorem dX5_tellsReceived_65 : decode cX5_tellsReceived 65 = .ok (.ireturn, 1) := by decide +kernel
theorem dX5_tellsReceived_66 : decode cX5_tellsReceived 66 = .ok (.aload_n 0, 1) := by decide +kernel
theorem dX5_tellsReceived_67 : decode cX5_tellsReceived 67 = .ok (.getfield 118, 3) := by decide +kernel
theorem dX5_tellsReceived_70 : decode cX5_tellsReceived 70 = .ok (.ireturn, 1) := by decide +kernel
theorem dX5_tellsReceived_71 : decode cX5_tellsReceived 71 = .ok (.aload_n 0, 1) := by decide +kernel
theorem dX5_tellsReceived_72 : decode cX5_tellsReceived 72 = .ok (.invokevirtual 131, 3) := by decide +kernel
theorem dX5_tellsReceived_75 : decode cX5_tellsReceived 75 = .ok (.ifCond .eq 7, 3) := by decide +kernel
theorem dX5_tellsReceived_78 : decode cX5_tellsReceived 78 = .ok (.iconst 1, 1) := by decide +kernel
theorem dX5_tellsReceived_79 : decode cX5_tellsReceived 79 = .ok (.goto 4, 3) := by decide +kernel
theorem dX5_tellsReceived_82 : decode cX5_tellsReceived 82 = .ok (.iconst 0, 1) := by decide +kernel
theorem dX5_tellsReceived_83 : decode cX5_tellsReceived 83 = .ok (.ireturn, 1) := by decide +kernel
theorem dX5_tellsReceived_84 : decode cX5_tellsReceived 84 = .ok (.aload_n 0, 1) := by decide +kernel
theorem dX5_tellsReceived_85 : decode cX5_tellsReceived 85 = .ok (.iload_n 1, 1) := by decide +kernel
theorem dX5_tellsReceived_86 : decode cX5_tellsReceived 86 = .ok (.bipush 8, 2) := by decide +kernel
theorem dX5_tellsReceived_88 : decode cX5_tellsReceived 88 = .ok (.isub, 1) := by decide +kernel
theorem dX5_tellsReceived_89 : decode cX5_tellsReceived 89 = .ok (.invokevirtual 174, 3) := by decide +kernel
theorem dX5_tellsReceived_92 : decode cX5_tellsReceived 92 = .ok (.ireturn, 1) := by decide +kernel
set_option maxRecDepth 20000 in
theorem ggX5_total_X5_within : GoodIn wsX5_total wsX5_within := goodIn_r _ [7] (by decide +kernel) (by decide +kernel)
set_option maxRecDepth 20000 in
theorem gX5_total_X5_within : GoodIn wsX5_total (va_wsS RX5 80 yX5_within wsX5_within) := goodIn_app (goodIn_of _ (by decide +kernel)) ggX5_total_X5_within
set_option maxRecDepth 20000 in
theorem ggX5_total_X5_tellsReceived : GoodIn wsX5_total wsX5_tellsReceived := goodIn_r _ [11, 1, 12, 13, 14, 15, 16, 17, 6, 18, 19, 20, 21, 22, 23, 24, 25, 26, 27, 28, 29, 30, 31, 32, 33, 34, 35, 36, 37, 38, 39, 40, 41, 42, 43, 44, 45, 46, 47, 48, 49, 50, 51, 52, 53, 54, 71, 72, 73, 74, 75, 76, 77, 78, 79, 80, 81, 82, 83, 84, 85, 86, 87, 88, 89, 90] (by decide +kernel) (by decide +kernel)
set_option maxRecDepth 20000 in
theorem gX5_total_X5_tellsReceived : GoodIn wsX5_total (wsV RX5 177 RX5 yX5_tellsReceived wsX5_tellsReceived) := goodIn_app (goodIn_of _ (by decide +kernel)) ggX5_total_X5_tellsReceived
set_option maxRecDepth 20000 in
theorem ggX5_total_X5_falls : GoodIn wsX5_total wsX5_falls := goodIn_r _ [58, 1, 22, 23, 24, 6, 25, 26, 27, 28, 29, 71, 72, 73, 74, 75, 76, 77, 78, 79, 80, 81, 82, 83, 84, 85, 86, 87, 88, 89, 90] (by decide +kernel) (by decide +kernel)
set_option maxRecDepth 20000 in
theorem gX5_total_X5_falls : GoodIn wsX5_total (wsV RX5 180 RX5 yX5_falls wsX5_falls) := goodIn_app (goodIn_of _ (by decide +kernel)) ggX5_total_X5_falls
set_option maxRecDepth 20000 in
theorem ggX5_total_X5_zeros : GoodIn wsX5_total wsX5_zeros := goodIn_r _ [62, 1, 26, 27, 28, 6, 29, 71, 72, 73, 74, 75, 76, 77, 78, 79, 80, 81, 82, 83, 84, 85, 86, 87, 88, 89, 90] (by decide +kernel) (by decide +kernel)
set_option maxRecDepth 20000 in
theorem gX5_total_X5_zeros : GoodIn wsX5_total (wsV RX5 183 RX5 yX5_zeros wsX5_zeros) := goodIn_app (goodIn_of _ (by decide +kernel)) ggX5_total_X5_zeros
set_option maxRecDepth 20000 in
theorem ggX5_total_X5_learned : GoodIn wsX5_total wsX5_learned := goodIn_r _ [66, 67, 68, 69, 6, 70, 1, 22, 23, 24, 25, 26, 27, 28, 29, 4, 5, 7, 71, 72, 73, 74, 75, 76, 77, 78, 79, 80, 81, 82, 83, 84, 85, 86, 87, 88, 89, 90] (by decide +kernel) (by decide +kernel)
set_option maxRecDepth 20000 in
theorem gX5_total_X5_learned : GoodIn wsX5_total (wsV RX5 103 RX5 yX5_learned wsX5_learned) := goodIn_app (goodIn_of _ (by decide +kernel)) ggX5_total_X5_learned
theorem dX5_total_0 : decode cX5_total 0 = .ok (.iload_n 1, 1) := by decide +kernel
theorem dX5_total_1 : decode cX5_total 1 = .ok (.iconst 0, 1) := by decide +kernel
theorem dX5_total_2 : decode cX5_total 2 = .ok (.bipush 6, 2) := by decide +kernel
theorem dX5_total_4 : decode cX5_total 4 = .ok (.invokestatic 80, 3) := by decide +kernel
theorem dX5_total_7 : decode cX5_total 7 = .ok (.ifCond .eq 10, 3) := by decide +kernel
theorem dX5_total_10 : decode cX5_total 10 = .ok (.aload_n 0, 1) := by decide +kernel
theorem dX5_total_11 : decode cX5_total 11 = .ok (.getfield 7, 3) := by decide +kernel
theorem dX5_total_14 : decode cX5_total 14 = .ok (.iload_n 1, 1) := by decide +kernel
theorem dX5_total_15 : decode cX5_total 15 = .ok (.iaload, 1) := by decide +kernel
theorem dX5_total_16 : decode cX5_total 16 = .ok (.ireturn, 1) := by decide +kernel
theorem dX5_total_17 : decode cX5_total 17 = .ok (.iload_n 1, 1) := by decide +kernel
theorem dX5_total_18 : decode cX5_total 18 = .ok (.bipush 7, 2) := by decide +kernel
theorem dX5_total_20 : decode cX5_total 20 = .ok (.bipush 14, 2) := by decide +kernel
theorem dX5_total_22 : decode cX5_total 22 = .ok (.invokestatic 80, 3) := by decide +kernel
theorem dX5_total_25 : decode cX5_total 25 = .ok (.ifCond .eq 9, 3) := by decide +kernel
theorem dX5_total_28 : decode cX5_total 28 = .ok (.aload_n 0, 1) := by decide +kernel
theorem dX5_total_29 : decode cX5_total 29 = .ok (.iload_n 1, 1) := by decide +kernel
theorem dX5_total_30 : decode cX5_total 30 = .ok (.invokevirtual 177, 3) := by decide +kernel
theorem dX5_total_33 : decode cX5_total 33 = .ok (.ireturn, 1) := by decide +kernel
theorem dX5_total_34 : decode cX5_total 34 = .ok (.iload_n 1, 1) := by decide +kernel
theorem dX5_total_35 : decode cX5_total 35 = .ok (.tableswitch 58 15 19 #[33, 38, 43, 48, 53], 33) := by decide +kernel
theorem dX5_total_68 : decode cX5_total 68 = .ok (.aload_n 0, 1) := by decide +kernel
theorem dX5_total_69 : decode cX5_total 69 = .ok (.invokevirtual 180, 3) := by decide +kernel
theorem dX5_total_72 : decode cX5_total 72 = .ok (.ireturn, 1) := by decide +kernel
theorem dX5_total_73 : decode cX5_total 73 = .ok (.aload_n 0, 1) := by decide +kernel
theorem dX5_total_74 : decode cX5_total 74 = .ok (.invokevirtual 183, 3) := by decide +kernel
theorem dX5_total_77 : decode cX5_total 77 = .ok (.ireturn, 1) := by decide +kernel
theorem dX5_total_78 : decode cX5_total 78 = .ok (.aload_n 0, 1) := by decide +kernel
theorem dX5_total_79 : decode cX5_total 79 = .ok (.invokevirtual 103, 3) := by decide +kernel
theorem dX5_total_82 : decode cX5_total 82 = .ok (.ireturn, 1) := by decide +kernel
theorem dX5_total_83 : decode cX5_total 83 = .ok (.aload_n 0, 1) := by decide +kernel
theorem dX5_total_84 : decode cX5_total 84 = .ok (.getfield 46, 3) := by decide +kernel
theorem dX5_total_87 : decode cX5_total 87 = .ok (.ireturn, 1) := by decide +kernel
theorem dX5_total_88 : decode cX5_total 88 = .ok (.aload_n 0, 1) := by decide +kernel
theorem dX5_total_89 : decode cX5_total 89 = .ok (.getfield 138, 3) := by decide +kernel
theorem dX5_total_92 : decode cX5_total 92 = .ok (.ireturn, 1) := by decide +kernel
theorem dX5_total_93 : decode cX5_total 93 = .ok (.bipush (-2), 2) := by decide +kernel
theorem dX5_total_95 : decode cX5_total 95 = .ok (.ireturn, 1) := by decide +kernel
set_option maxRecDepth 20000 in
theorem ggX5_ifLength_X5_within : GoodIn wsX5_ifLength wsX5_within := goodIn_r _ [6] (by decide +kernel) (by decide +kernel)
set_option maxRecDepth 20000 in
theorem gX5_ifLength_X5_within : GoodIn wsX5_ifLength (va_wsS RX5 80 yX5_within wsX5_within) := goodIn_app (goodIn_of _ (by decide +kernel)) ggX5_ifLength_X5_within
set_option maxRecDepth 20000 in
theorem ggX5_ifLength_X5_receive : GoodIn wsX5_ifLength wsX5_receive := goodIn_r _ [10, 1, 11, 2, 12, 13, 14, 15, 16, 17, 18, 5, 19, 20, 21, 22, 23, 24, 25, 26, 27, 28, 29, 30, 31, 32, 33, 34, 35, 36, 37, 38, 39, 40, 49, 50, 51, 52, 53, 54, 55, 56, 57, 58, 59, 60, 61, 62, 63, 64, 65, 66, 67, 68] (by decide +kernel) (by decide +kernel)
set_option maxRecDepth 20000 in
theorem gX5_ifLength_X5_receive : GoodIn wsX5_ifLength (wsV RX5 127 RX5 yX5_receive wsX5_receive) := goodIn_app (goodIn_of _ (by decide +kernel)) ggX5_ifLength_X5_receive
set_option maxRecDepth 20000 in
theorem ggX5_ifLength_X5_ofKind : GoodIn wsX5_ifLength wsX5_ofKind := goodIn_r _ [44, 1, 14, 49, 50, 51, 52, 53, 54, 55, 56, 57, 58, 59, 60, 61, 62, 63, 64, 65, 66, 67, 68] (by decide +kernel) (by decide +kernel)
set_option maxRecDepth 20000 in
theorem gX5_ifLength_X5_ofKind : GoodIn wsX5_ifLength (wsV RX5 174 RX5 yX5_ofKind wsX5_ofKind) := goodIn_app (goodIn_of _ (by decide +kernel)) ggX5_ifLength_X5_ofKind
set_option maxRecDepth 20000 in
theorem ggX5_ifLength_X5_isWell : GoodIn wsX5_ifLength wsX5_isWell := goodIn_r _ [48, 1, 12, 14, 28, 49, 50, 51, 52, 53, 54, 55, 56, 57, 58, 59, 60, 61, 62, 63, 64, 65, 66, 67, 68] (by decide +kernel) (by decide +kernel)
set_option maxRecDepth 20000 in
theorem gX5_ifLength_X5_isWell : GoodIn wsX5_ifLength (wsV RX5 131 RX5 yX5_isWell wsX5_isWell) := goodIn_app (goodIn_of _ (by decide +kernel)) ggX5_ifLength_X5_isWell
theorem dX5_ifLength_0 : decode cX5_ifLength 0 = .ok (.iload_n 1, 1) := by decide +kernel
theorem dX5_ifLength_1 : decode cX5_ifLength 1 = .ok (.iconst 4, 1) := by decide +kernel
theorem dX5_ifLength_2 : decode cX5_ifLength 2 = .ok (.bipush 40, 2) := by decide +kernel
theorem dX5_ifLength_4 : decode cX5_ifLength 4 = .ok (.invokestatic 80, 3) := by decide +kernel
theorem dX5_ifLength_7 : decode cX5_ifLength 7 = .ok (.ifCond .eq 12, 3) := by decide +kernel
theorem dX5_ifLength_10 : decode cX5_ifLength 10 = .ok (.iload_n 2, 1) := by decide +kernel
theorem dX5_ifLength_11 : decode cX5_ifLength 11 = .ok (.iconst 0, 1) := by decide +kernel
theorem dX5_ifLength_12 : decode cX5_ifLength 12 = .ok (.iconst 3, 1) := by decide +kernel
theorem dX5_ifLength_13 : decode cX5_ifLength 13 = .ok (.invokestatic 80, 3) := by decide +kernel
theorem dX5_ifLength_16 : decode cX5_ifLength 16 = .ok (.ifCond .ne 6, 3) := by decide +kernel
theorem dX5_ifLength_19 : decode cX5_ifLength 19 = .ok (.bipush (-2), 2) := by decide +kernel
theorem dX5_ifLength_21 : decode cX5_ifLength 21 = .ok (.ireturn, 1) := by decide +kernel
theorem dX5_ifLength_22 : decode cX5_ifLength 22 = .ok (.aload_n 0, 1) := by decide +kernel
theorem dX5_ifLength_23 : decode cX5_ifLength 23 = .ok (.iload_n 1, 1) := by decide +kernel
theorem dX5_ifLength_24 : decode cX5_ifLength 24 = .ok (.invokevirtual 127, 3) := by decide +kernel
theorem dX5_ifLength_27 : decode cX5_ifLength 27 = .ok (.iload_n 2, 1) := by decide +kernel
theorem dX5_ifLength_28 : decode cX5_ifLength 28 = .ok (.ifCond .ne 10, 3) := by decide +kernel
theorem dX5_ifLength_31 : decode cX5_ifLength 31 = .ok (.aload_n 0, 1) := by decide +kernel
theorem dX5_ifLength_32 : decode cX5_ifLength 32 = .ok (.getfield 109, 3) := by decide +kernel
theorem dX5_ifLength_35 : decode cX5_ifLength 35 = .ok (.goto 40, 3) := by decide +kernel
theorem dX5_ifLength_38 : decode cX5_ifLength 38 = .ok (.iload_n 2, 1) := by decide +kernel
theorem dX5_ifLength_39 : decode cX5_ifLength 39 = .ok (.iconst 1, 1) := by decide +kernel
theorem dX5_ifLength_40 : decode cX5_ifLength 40 = .ok (.if_icmp .ne 11, 3) := by decide +kernel
theorem dX5_ifLength_43 : decode cX5_ifLength 43 = .ok (.aload_n 0, 1) := by decide +kernel
theorem dX5_ifLength_44 : decode cX5_ifLength 44 = .ok (.iconst 0, 1) := by decide +kernel
theorem dX5_ifLength_45 : decode cX5_ifLength 45 = .ok (.invokevirtual 174, 3) := by decide +kernel
theorem dX5_ifLength_48 : decode cX5_ifLength 48 = .ok (.goto 27, 3) := by decide +kernel
theorem dX5_ifLength_51 : decode cX5_ifLength 51 = .ok (.iload_n 2, 1) := by decide +kernel
theorem dX5_ifLength_52 : decode cX5_ifLength 52 = .ok (.iconst 2, 1) := by decide +kernel
theorem dX5_ifLength_53 : decode cX5_ifLength 53 = .ok (.if_icmp .ne 10, 3) := by decide +kernel
theorem dX5_ifLength_56 : decode cX5_ifLength 56 = .ok (.aload_n 0, 1) := by decide +kernel
theorem dX5_ifLength_57 : decode cX5_ifLength 57 = .ok (.getfield 118, 3) := by decide +kernel
theorem dX5_ifLength_60 : decode cX5_ifLength 60 = .ok (.goto 15, 3) := by decide +kernel
theorem dX5_ifLength_63 : decode cX5_ifLength 63 = .ok (.aload_n 0, 1) := by decide +kernel
theorem dX5_ifLength_64 : decode cX5_ifLength 64 = .ok (.invokevirtual 131, 3) := by decide +kernel
theorem dX5_ifLength_67 : decode cX5_ifLength 67 = .ok (.ifCond .eq 7, 3) := by decide +kernel
theorem dX5_ifLength_70 : decode cX5_ifLength 70 = .ok (.iconst 1, 1) := by decide +kernel
theorem dX5_ifLength_71 : decode cX5_ifLength 71 = .ok (.goto 4, 3) := by decide +kernel
theorem dX5_ifLength_74 : decode cX5_ifLength 74 = .ok (.iconst 0, 1) := by decide +kernel
theorem dX5_ifLength_75 : decode cX5_ifLength 75 = .ok (.ireturn, 1) := by decide +kernel
set_option maxRecDepth 20000 in
theorem ggX5_goodLength_X5_isWellWith : GoodIn wsX5_goodLength wsX5_isWellWith := goodIn_r _ [5, 6, 7, 8, 4, 9, 10, 11, 12, 13, 14, 15, 16, 17, 18, 19, 20, 21, 22, 23, 24, 25, 26, 27, 28, 29, 30, 31, 32, 33, 34, 35, 36, 37, 38, 39, 40, 41, 42, 43, 44, 45, 46, 47, 48, 49, 50, 51, 52, 53, 54, 55, 56, 57, 58, 59, 60, 61, 62, 63, 64, 65] (by decide +kernel) (by decide +kernel)
set_option maxRecDepth 20000 in
theorem gX5_goodLength_X5_isWellWith : GoodIn wsX5_goodLength (wsV RX5 186 RX5 yX5_isWellWith wsX5_isWellWith) := goodIn_app (goodIn_of _ (by decide +kernel)) ggX5_goodLength_X5_isWellWith
theorem dX5_goodLength_0 : decode cX5_goodLength 0 = .ok (.bipush (-5), 2) := by decide +kernel
theorem dX5_goodLength_2 : decode cX5_goodLength 2 = .ok (.istore_n 2, 1) := by decide +kernel
theorem dX5_goodLength_3 : decode cX5_goodLength 3 = .ok (.iconst 4, 1) := by decide +kernel
theorem dX5_goodLength_4 : decode cX5_goodLength 4 = .ok (.istore_n 3, 1) := by decide +kernel
theorem dX5_goodLength_5 : decode cX5_goodLength 5 = .ok (.iload_n 3, 1) := by decide +kernel
theorem dX5_goodLength_6 : decode cX5_goodLength 6 = .ok (.bipush 40, 2) := by decide +kernel
theorem dX5_goodLength_8 : decode cX5_goodLength 8 = .ok (.if_icmp .gt 33, 3) := by decide +kernel
theorem dX5_goodLength_11 : decode cX5_goodLength 11 = .ok (.aload_n 0, 1) := by decide +kernel
theorem dX5_goodLength_12 : decode cX5_goodLength 12 = .ok (.iload_n 3, 1) := by decide +kernel
theorem dX5_goodLength_13 : decode cX5_goodLength 13 = .ok (.invokevirtual 186, 3) := by decide +kernel
theorem dX5_goodLength_16 : decode cX5_goodLength 16 = .ok (.ifCond .eq 19, 3) := by decide +kernel
theorem dX5_goodLength_19 : decode cX5_goodLength 19 = .ok (.iload_n 2, 1) := by decide +kernel
theorem dX5_goodLength_20 : decode cX5_goodLength 20 = .ok (.bipush (-5), 2) := by decide +kernel
theorem dX5_goodLength_22 : decode cX5_goodLength 22 = .ok (.if_icmp .eq 7, 3) := by decide +kernel
theorem dX5_goodLength_25 : decode cX5_goodLength 25 = .ok (.iload_n 1, 1) := by decide +kernel
theorem dX5_goodLength_26 : decode cX5_goodLength 26 = .ok (.ifCond .eq 7, 3) := by decide +kernel
theorem dX5_goodLength_29 : decode cX5_goodLength 29 = .ok (.iload_n 3, 1) := by decide +kernel
theorem dX5_goodLength_30 : decode cX5_goodLength 30 = .ok (.goto 4, 3) := by decide +kernel
theorem dX5_goodLength_33 : decode cX5_goodLength 33 = .ok (.iload_n 2, 1) := by decide +kernel
theorem dX5_goodLength_34 : decode cX5_goodLength 34 = .ok (.istore_n 2, 1) := by decide +kernel
theorem dX5_goodLength_35 : decode cX5_goodLength 35 = .ok (.iinc 3 1, 3) := by decide +kernel
theorem dX5_goodLength_38 : decode cX5_goodLength 38 = .ok (.goto (-33), 3) := by decide +kernel
theorem dX5_goodLength_41 : decode cX5_goodLength 41 = .ok (.iload_n 2, 1) := by decide +kernel
theorem dX5_goodLength_42 : decode cX5_goodLength 42 = .ok (.ireturn, 1) := by decide +kernel
set_option maxRecDepth 20000 in
theorem ggX5_harm_X5_within : GoodIn wsX5_harm wsX5_within := goodIn_r _ [5] (by decide +kernel) (by decide +kernel)
set_option maxRecDepth 20000 in
theorem gX5_harm_X5_within : GoodIn wsX5_harm (va_wsS RX5 80 yX5_within wsX5_within) := goodIn_app (goodIn_of _ (by decide +kernel)) ggX5_harm_X5_within
set_option maxRecDepth 20000 in
theorem ggX5_harm_X5_flip : GoodIn wsX5_harm wsX5_flip := goodIn_r _ [9, 1, 53, 54, 55, 56, 57, 58, 59, 60, 61, 62, 63, 64, 65, 66, 67, 68, 69, 70, 71, 72] (by decide +kernel) (by decide +kernel)
set_option maxRecDepth 20000 in
theorem gX5_harm_X5_flip : GoodIn wsX5_harm (wsV RX5 96 RX5 yX5_flip wsX5_flip) := goodIn_app (goodIn_of _ (by decide +kernel)) ggX5_harm_X5_flip
set_option maxRecDepth 20000 in
theorem ggX5_harm_X5_isWellWith : GoodIn wsX5_harm wsX5_isWellWith := goodIn_r _ [13, 14, 15, 16, 4, 17, 18, 19, 20, 1, 21, 22, 23, 24, 25, 26, 27, 28, 29, 30, 31, 32, 33, 34, 35, 36, 37, 38, 39, 40, 41, 42, 43, 44, 45, 46, 47, 48, 49, 50, 51, 52, 53, 54, 55, 56, 57, 58, 59, 60, 61, 62, 63, 64, 65, 66, 67, 68, 69, 70, 71, 72] (by decide +kernel) (by decide +kernel)
set_option maxRecDepth 20000 in
theorem gX5_harm_X5_isWellWith : GoodIn wsX5_harm (wsV RX5 186 RX5 yX5_isWellWith wsX5_isWellWith) := goodIn_app (goodIn_of _ (by decide +kernel)) ggX5_harm_X5_isWellWith
theorem dX5_harm_0 : decode cX5_harm 0 = .ok (.iload_n 1, 1) := by decide +kernel
theorem dX5_harm_1 : decode cX5_harm 1 = .ok (.iconst 1, 1) := by decide +kernel
theorem dX5_harm_2 : decode cX5_harm 2 = .ok (.bipush 40, 2) := by decide +kernel
theorem dX5_harm_4 : decode cX5_harm 4 = .ok (.invokestatic 80, 3) := by decide +kernel
theorem dX5_harm_7 : decode cX5_harm 7 = .ok (.ifCond .ne 6, 3) := by decide +kernel
theorem dX5_harm_10 : decode cX5_harm 10 = .ok (.bipush (-2), 2) := by decide +kernel
theorem dX5_harm_12 : decode cX5_harm 12 = .ok (.ireturn, 1) := by decide +kernel
theorem dX5_harm_13 : decode cX5_harm 13 = .ok (.iconst 0, 1) := by decide +kernel
theorem dX5_harm_14 : decode cX5_harm 14 = .ok (.istore_n 2, 1) := by decide +kernel
theorem dX5_harm_15 : decode cX5_harm 15 = .ok (.iload_n 2, 1) := by decide +kernel
theorem dX5_harm_16 : decode cX5_harm 16 = .ok (.iload_n 1, 1) := by decide +kernel
theorem dX5_harm_17 : decode cX5_harm 17 = .ok (.iadd, 1) := by decide +kernel
theorem dX5_harm_18 : decode cX5_harm 18 = .ok (.aload_n 0, 1) := by decide +kernel
theorem dX5_harm_19 : decode cX5_harm 19 = .ok (.getfield 7, 3) := by decide +kernel
theorem dX5_harm_22 : decode cX5_harm 22 = .ok (.iconst 5, 1) := by decide +kernel
theorem dX5_harm_23 : decode cX5_harm 23 = .ok (.iaload, 1) := by decide +kernel
theorem dX5_harm_24 : decode cX5_harm 24 = .ok (.if_icmp .gt 38, 3) := by decide +kernel
theorem dX5_harm_27 : decode cX5_harm 27 = .ok (.aload_n 0, 1) := by decide +kernel
theorem dX5_harm_28 : decode cX5_harm 28 = .ok (.iload_n 2, 1) := by decide +kernel
theorem dX5_harm_29 : decode cX5_harm 29 = .ok (.iload_n 1, 1) := by decide +kernel
theorem dX5_harm_30 : decode cX5_harm 30 = .ok (.invokevirtual 96, 3) := by decide +kernel
theorem dX5_harm_33 : decode cX5_harm 33 = .ok (.aload_n 0, 1) := by decide +kernel
theorem dX5_harm_34 : decode cX5_harm 34 = .ok (.aload_n 0, 1) := by decide +kernel
theorem dX5_harm_35 : decode cX5_harm 35 = .ok (.getfield 7, 3) := by decide +kernel
theorem dX5_harm_38 : decode cX5_harm 38 = .ok (.iconst 1, 1) := by decide +kernel
theorem dX5_harm_39 : decode cX5_harm 39 = .ok (.iaload, 1) := by decide +kernel
theorem dX5_harm_40 : decode cX5_harm 40 = .ok (.invokevirtual 186, 3) := by decide +kernel
theorem dX5_harm_43 : decode cX5_harm 43 = .ok (.istore_n 3, 1) := by decide +kernel
theorem dX5_harm_44 : decode cX5_harm 44 = .ok (.aload_n 0, 1) := by decide +kernel
theorem dX5_harm_45 : decode cX5_harm 45 = .ok (.iload_n 2, 1) := by decide +kernel
theorem dX5_harm_46 : decode cX5_harm 46 = .ok (.iload_n 1, 1) := by decide +kernel
theorem dX5_harm_47 : decode cX5_harm 47 = .ok (.invokevirtual 96, 3) := by decide +kernel
theorem dX5_harm_50 : decode cX5_harm 50 = .ok (.iload_n 3, 1) := by decide +kernel
theorem dX5_harm_51 : decode cX5_harm 51 = .ok (.ifCond .ne 5, 3) := by decide +kernel
theorem dX5_harm_54 : decode cX5_harm 54 = .ok (.iload_n 2, 1) := by decide +kernel
theorem dX5_harm_55 : decode cX5_harm 55 = .ok (.ireturn, 1) := by decide +kernel
theorem dX5_harm_56 : decode cX5_harm 56 = .ok (.iinc 2 1, 3) := by decide +kernel
theorem dX5_harm_59 : decode cX5_harm 59 = .ok (.goto (-44), 3) := by decide +kernel
theorem dX5_harm_62 : decode cX5_harm 62 = .ok (.bipush (-5), 2) := by decide +kernel
theorem dX5_harm_64 : decode cX5_harm 64 = .ok (.ireturn, 1) := by decide +kernel
set_option maxRecDepth 20000 in
theorem ggX5_ifSent_X5_within : GoodIn wsX5_ifSent wsX5_within := goodIn_r _ [8] (by decide +kernel) (by decide +kernel)
set_option maxRecDepth 20000 in
theorem gX5_ifSent_X5_within : GoodIn wsX5_ifSent (va_wsS RX5 80 yX5_within wsX5_within) := goodIn_app (goodIn_of _ (by decide +kernel)) ggX5_ifSent_X5_within
set_option maxRecDepth 20000 in
theorem ggX5_ifSent_X5_putAside : GoodIn wsX5_ifSent wsX5_putAside := goodIn_r _ [12, 13, 1, 66, 67, 68, 69, 70, 71, 72, 73, 74, 75, 76, 77, 78, 79, 80, 81, 82, 83, 84, 85] (by decide +kernel) (by decide +kernel)
set_option maxRecDepth 20000 in
theorem gX5_ifSent_X5_putAside : GoodIn wsX5_ifSent (wsV RX5 50 RX5 yX5_putAside wsX5_putAside) := goodIn_app (goodIn_of _ (by decide +kernel)) ggX5_ifSent_X5_putAside
set_option maxRecDepth 20000 in
theorem ggX5_ifSent_X5_putWord : GoodIn wsX5_ifSent wsX5_putWord := goodIn_r _ [17, 1, 18, 19, 20, 7, 21, 22, 23, 24, 25, 26, 27, 28, 29, 30, 31, 32, 33, 34, 35, 36, 66, 67, 68, 69, 70, 71, 72, 73, 74, 75, 76, 77, 78, 79, 80, 81, 82, 83, 84, 85] (by decide +kernel) (by decide +kernel)
set_option maxRecDepth 20000 in
theorem gX5_ifSent_X5_putWord : GoodIn wsX5_ifSent (wsV RX5 84 RX5 yX5_putWord wsX5_putWord) := goodIn_app (goodIn_of _ (by decide +kernel)) ggX5_ifSent_X5_putWord
set_option maxRecDepth 20000 in
theorem ggX5_ifSent_X5_receive : GoodIn wsX5_ifSent wsX5_receive := goodIn_r _ [40, 2, 41, 42, 1, 43, 3, 44, 45, 46, 47, 7, 48, 49, 50, 51, 52, 53, 54, 55, 56, 4, 57, 58, 59, 60, 61, 30, 31, 32, 33, 34, 35, 36, 66, 67, 68, 69, 70, 71, 72, 73, 74, 75, 76, 77, 78, 79, 80, 81, 82, 83, 84, 85] (by decide +kernel) (by decide +kernel)
set_option maxRecDepth 20000 in
theorem gX5_ifSent_X5_receive : GoodIn wsX5_ifSent (wsV RX5 127 RX5 yX5_receive wsX5_receive) := goodIn_app (goodIn_of _ (by decide +kernel)) ggX5_ifSent_X5_receive
set_option maxRecDepth 20000 in
theorem ggX5_ifSent_X5_takeBack : GoodIn wsX5_ifSent wsX5_takeBack := goodIn_r _ [65, 1, 13, 66, 67, 68, 69, 70, 71, 72, 73, 74, 75, 76, 77, 78, 79, 80, 81, 82, 83, 84, 85] (by decide +kernel) (by decide +kernel)
set_option maxRecDepth 20000 in
theorem gX5_ifSent_X5_takeBack : GoodIn wsX5_ifSent (wsV RX5 168 RX5 yX5_takeBack wsX5_takeBack) := goodIn_app (goodIn_of _ (by decide +kernel)) ggX5_ifSent_X5_takeBack
theorem dX5_ifSent_0 : decode cX5_ifSent 0 = .ok (.iload_n 1, 1) := by decide +kernel
theorem dX5_ifSent_1 : decode cX5_ifSent 1 = .ok (.iconst 0, 1) := by decide +kernel
theorem dX5_ifSent_2 : decode cX5_ifSent 2 = .ok (.sipush 255, 3) := by decide +kernel
theorem dX5_ifSent_5 : decode cX5_ifSent 5 = .ok (.invokestatic 80, 3) := by decide +kernel
theorem dX5_ifSent_8 : decode cX5_ifSent 8 = .ok (.ifCond .ne 6, 3) := by decide +kernel
theorem dX5_ifSent_11 : decode cX5_ifSent 11 = .ok (.bipush (-2), 2) := by decide +kernel
theorem dX5_ifSent_13 : decode cX5_ifSent 13 = .ok (.ireturn, 1) := by decide +kernel
theorem dX5_ifSent_14 : decode cX5_ifSent 14 = .ok (.aload_n 0, 1) := by decide +kernel
theorem dX5_ifSent_15 : decode cX5_ifSent 15 = .ok (.invokevirtual 50, 3) := by decide +kernel
theorem dX5_ifSent_18 : decode cX5_ifSent 18 = .ok (.aload_n 0, 1) := by decide +kernel
theorem dX5_ifSent_19 : decode cX5_ifSent 19 = .ok (.iload_n 1, 1) := by decide +kernel
theorem dX5_ifSent_20 : decode cX5_ifSent 20 = .ok (.invokevirtual 84, 3) := by decide +kernel
theorem dX5_ifSent_23 : decode cX5_ifSent 23 = .ok (.ifCond .ne 6, 3) := by decide +kernel
theorem dX5_ifSent_26 : decode cX5_ifSent 26 = .ok (.bipush (-3), 2) := by decide +kernel
theorem dX5_ifSent_28 : decode cX5_ifSent 28 = .ok (.ireturn, 1) := by decide +kernel
theorem dX5_ifSent_29 : decode cX5_ifSent 29 = .ok (.aload_n 0, 1) := by decide +kernel
theorem dX5_ifSent_30 : decode cX5_ifSent 30 = .ok (.aload_n 0, 1) := by decide +kernel
theorem dX5_ifSent_31 : decode cX5_ifSent 31 = .ok (.getfield 7, 3) := by decide +kernel
theorem dX5_ifSent_34 : decode cX5_ifSent 34 = .ok (.iconst 1, 1) := by decide +kernel
theorem dX5_ifSent_35 : decode cX5_ifSent 35 = .ok (.iaload, 1) := by decide +kernel
theorem dX5_ifSent_36 : decode cX5_ifSent 36 = .ok (.invokevirtual 127, 3) := by decide +kernel
theorem dX5_ifSent_39 : decode cX5_ifSent 39 = .ok (.iconst 0, 1) := by decide +kernel
theorem dX5_ifSent_40 : decode cX5_ifSent 40 = .ok (.istore_n 2, 1) := by decide +kernel
theorem dX5_ifSent_41 : decode cX5_ifSent 41 = .ok (.iconst 0, 1) := by decide +kernel
theorem dX5_ifSent_42 : decode cX5_ifSent 42 = .ok (.istore_n 3, 1) := by decide +kernel
theorem dX5_ifSent_43 : decode cX5_ifSent 43 = .ok (.iload_n 3, 1) := by decide +kernel
theorem dX5_ifSent_44 : decode cX5_ifSent 44 = .ok (.aload_n 0, 1) := by decide +kernel
theorem dX5_ifSent_45 : decode cX5_ifSent 45 = .ok (.getfield 109, 3) := by decide +kernel
theorem dX5_ifSent_48 : decode cX5_ifSent 48 = .ok (.if_icmp .ge 36, 3) := by decide +kernel
theorem dX5_ifSent_51 : decode cX5_ifSent 51 = .ok (.iload_n 2, 1) := by decide +kernel
theorem dX5_ifSent_52 : decode cX5_ifSent 52 = .ok (.aload_n 0, 1) := by decide +kernel
theorem dX5_ifSent_53 : decode cX5_ifSent 53 = .ok (.getfield 31, 3) := by decide +kernel
theorem dX5_ifSent_56 : decode cX5_ifSent 56 = .ok (.iload_n 3, 1) := by decide +kernel
theorem dX5_ifSent_57 : decode cX5_ifSent 57 = .ok (.iaload, 1) := by decide +kernel
theorem dX5_ifSent_58 : decode cX5_ifSent 58 = .ok (.ifCond .ne 17, 3) := by decide +kernel
theorem dX5_ifSent_61 : decode cX5_ifSent 61 = .ok (.aload_n 0, 1) := by decide +kernel
theorem dX5_ifSent_62 : decode cX5_ifSent 62 = .ok (.getfield 34, 3) := by decide +kernel
theorem dX5_ifSent_65 : decode cX5_ifSent 65 = .ok (.iload_n 3, 1) := by decide +kernel
theorem dX5_ifSent_66 : decode cX5_ifSent 66 = .ok (.iaload, 1) := by decide +kernel
theorem dX5_ifSent_67 : decode cX5_ifSent 67 = .ok (.iload_n 1, 1) := by decide +kernel
theorem dX5_ifSent_68 : decode cX5_ifSent 68 = .ok (.if_icmp .ne 7, 3) := by decide +kernel
theorem dX5_ifSent_71 : decode cX5_ifSent 71 = .ok (.iconst 1, 1) := by decide +kernel
theorem dX5_ifSent_72 : decode cX5_ifSent 72 = .ok (.goto 4, 3) := by decide +kernel
theorem dX5_ifSent_75 : decode cX5_ifSent 75 = .ok (.iconst 0, 1) := by decide +kernel
theorem dX5_ifSent_76 : decode cX5_ifSent 76 = .ok (.iadd, 1) := by decide +kernel
theorem dX5_ifSent_77 : decode cX5_ifSent 77 = .ok (.istore_n 2, 1) := by decide +kernel
theorem dX5_ifSent_78 : decode cX5_ifSent 78 = .ok (.iinc 3 1, 3) := by decide +kernel
theorem dX5_ifSent_81 : decode cX5_ifSent 81 = .ok (.goto (-38), 3) := by decide +kernel
theorem dX5_ifSent_84 : decode cX5_ifSent 84 = .ok (.aload_n 0, 1) := by decide +kernel
theorem dX5_ifSent_85 : decode cX5_ifSent 85 = .ok (.invokevirtual 168, 3) := by decide +kernel
theorem dX5_ifSent_88 : decode cX5_ifSent 88 = .ok (.iload_n 2, 1) := by decide +kernel
theorem dX5_ifSent_89 : decode cX5_ifSent 89 = .ok (.ireturn, 1) := by decide +kernel
theorem dJ6_bitCount_0f7a4_0 : decode cJ6_bitCount_0f7a4 0 = .ok (.iload_n 0, 1) := by decide +kernel
theorem dJ6_bitCount_0f7a4_1 : decode cJ6_bitCount_0f7a4 1 = .ok (.iload_n 0, 1) := by decide +kernel
theorem dJ6_bitCount_0f7a4_2 : decode cJ6_bitCount_0f7a4 2 = .ok (.iconst 1, 1) := by decide +kernel
theorem dJ6_bitCount_0f7a4_3 : decode cJ6_bitCount_0f7a4 3 = .ok (.iushr, 1) := by decide +kernel
theorem dJ6_bitCount_0f7a4_4 : decode cJ6_bitCount_0f7a4 4 = .ok (.ldc_w 265, 3) := by decide +kernel
theorem dJ6_bitCount_0f7a4_7 : decode cJ6_bitCount_0f7a4 7 = .ok (.iand, 1) := by decide +kernel
theorem dJ6_bitCount_0f7a4_8 : decode cJ6_bitCount_0f7a4 8 = .ok (.isub, 1) := by decide +kernel
theorem dJ6_bitCount_0f7a4_9 : decode cJ6_bitCount_0f7a4 9 = .ok (.istore_n 0, 1) := by decide +kernel
theorem dJ6_bitCount_0f7a4_10 : decode cJ6_bitCount_0f7a4 10 = .ok (.iload_n 0, 1) := by decide +kernel
theorem dJ6_bitCount_0f7a4_11 : decode cJ6_bitCount_0f7a4 11 = .ok (.ldc_w 266, 3) := by decide +kernel
theorem dJ6_bitCount_0f7a4_14 : decode cJ6_bitCount_0f7a4 14 = .ok (.iand, 1) := by decide +kernel
theorem dJ6_bitCount_0f7a4_15 : decode cJ6_bitCount_0f7a4 15 = .ok (.iload_n 0, 1) := by decide +kernel
theorem dJ6_bitCount_0f7a4_16 : decode cJ6_bitCount_0f7a4 16 = .ok (.iconst 2, 1) := by decide +kernel
theorem dJ6_bitCount_0f7a4_17 : decode cJ6_bitCount_0f7a4 17 = .ok (.iushr, 1) := by decide +kernel
theorem dJ6_bitCount_0f7a4_18 : decode cJ6_bitCount_0f7a4 18 = .ok (.ldc_w 266, 3) := by decide +kernel
theorem dJ6_bitCount_0f7a4_21 : decode cJ6_bitCount_0f7a4 21 = .ok (.iand, 1) := by decide +kernel
theorem dJ6_bitCount_0f7a4_22 : decode cJ6_bitCount_0f7a4 22 = .ok (.iadd, 1) := by decide +kernel
theorem dJ6_bitCount_0f7a4_23 : decode cJ6_bitCount_0f7a4 23 = .ok (.istore_n 0, 1) := by decide +kernel
theorem dJ6_bitCount_0f7a4_24 : decode cJ6_bitCount_0f7a4 24 = .ok (.iload_n 0, 1) := by decide +kernel
theorem dJ6_bitCount_0f7a4_25 : decode cJ6_bitCount_0f7a4 25 = .ok (.iload_n 0, 1) := by decide +kernel
theorem dJ6_bitCount_0f7a4_26 : decode cJ6_bitCount_0f7a4 26 = .ok (.iconst 4, 1) := by decide +kernel
theorem dJ6_bitCount_0f7a4_27 : decode cJ6_bitCount_0f7a4 27 = .ok (.iushr, 1) := by decide +kernel
theorem dJ6_bitCount_0f7a4_28 : decode cJ6_bitCount_0f7a4 28 = .ok (.iadd, 1) := by decide +kernel
theorem dJ6_bitCount_0f7a4_29 : decode cJ6_bitCount_0f7a4 29 = .ok (.ldc_w 267, 3) := by decide +kernel
theorem dJ6_bitCount_0f7a4_32 : decode cJ6_bitCount_0f7a4 32 = .ok (.iand, 1) := by decide +kernel
theorem dJ6_bitCount_0f7a4_33 : decode cJ6_bitCount_0f7a4 33 = .ok (.istore_n 0, 1) := by decide +kernel
theorem dJ6_bitCount_0f7a4_34 : decode cJ6_bitCount_0f7a4 34 = .ok (.iload_n 0, 1) := by decide +kernel
theorem dJ6_bitCount_0f7a4_35 : decode cJ6_bitCount_0f7a4 35 = .ok (.iload_n 0, 1) := by decide +kernel
theorem dJ6_bitCount_0f7a4_36 : decode cJ6_bitCount_0f7a4 36 = .ok (.bipush 8, 2) := by decide +kernel
theorem dJ6_bitCount_0f7a4_38 : decode cJ6_bitCount_0f7a4 38 = .ok (.iushr, 1) := by decide +kernel
theorem dJ6_bitCount_0f7a4_39 : decode cJ6_bitCount_0f7a4 39 = .ok (.iadd, 1) := by decide +kernel
theorem dJ6_bitCount_0f7a4_40 : decode cJ6_bitCount_0f7a4 40 = .ok (.istore_n 0, 1) := by decide +kernel
theorem dJ6_bitCount_0f7a4_41 : decode cJ6_bitCount_0f7a4 41 = .ok (.iload_n 0, 1) := by decide +kernel
theorem dJ6_bitCount_0f7a4_42 : decode cJ6_bitCount_0f7a4 42 = .ok (.iload_n 0, 1) := by decide +kernel
theorem dJ6_bitCount_0f7a4_43 : decode cJ6_bitCount_0f7a4 43 = .ok (.bipush 16, 2) := by decide +kernel
theorem dJ6_bitCount_0f7a4_45 : decode cJ6_bitCount_0f7a4 45 = .ok (.iushr, 1) := by decide +kernel
theorem dJ6_bitCount_0f7a4_46 : decode cJ6_bitCount_0f7a4 46 = .ok (.iadd, 1) := by decide +kernel
theorem dJ6_bitCount_0f7a4_47 : decode cJ6_bitCount_0f7a4 47 = .ok (.istore_n 0, 1) := by decide +kernel
theorem dJ6_bitCount_0f7a4_48 : decode cJ6_bitCount_0f7a4 48 = .ok (.iload_n 0, 1) := by decide +kernel
theorem dJ6_bitCount_0f7a4_49 : decode cJ6_bitCount_0f7a4 49 = .ok (.bipush 63, 2) := by decide +kernel
theorem dJ6_bitCount_0f7a4_51 : decode cJ6_bitCount_0f7a4 51 = .ok (.iand, 1) := by decide +kernel
theorem dJ6_bitCount_0f7a4_52 : decode cJ6_bitCount_0f7a4 52 = .ok (.ireturn, 1) := by decide +kernel
theorem dJ13_bitCount_95d88_0 : decode cJ13_bitCount_95d88 0 = .ok (.lload_n 0, 1) := by decide +kernel
theorem dJ13_bitCount_95d88_1 : decode cJ13_bitCount_95d88 1 = .ok (.lload_n 0, 1) := by decide +kernel
theorem dJ13_bitCount_95d88_2 : decode cJ13_bitCount_95d88 2 = .ok (.iconst 1, 1) := by decide +kernel
theorem dJ13_bitCount_95d88_3 : decode cJ13_bitCount_95d88 3 = .ok (.lushr, 1) := by decide +kernel
theorem dJ13_bitCount_95d88_4 : decode cJ13_bitCount_95d88 4 = .ok (.ldc2_w 314, 3) := by decide +kernel
theorem dJ13_bitCount_95d88_7 : decode cJ13_bitCount_95d88 7 = .ok (.land, 1) := by decide +kernel
theorem dJ13_bitCount_95d88_8 : decode cJ13_bitCount_95d88 8 = .ok (.lsub, 1) := by decide +kernel
theorem dJ13_bitCount_95d88_9 : decode cJ13_bitCount_95d88 9 = .ok (.lstore_n 0, 1) := by decide +kernel
theorem dJ13_bitCount_95d88_10 : decode cJ13_bitCount_95d88 10 = .ok (.lload_n 0, 1) := by decide +kernel
theorem dJ13_bitCount_95d88_11 : decode cJ13_bitCount_95d88 11 = .ok (.ldc2_w 316, 3) := by decide +kernel
theorem dJ13_bitCount_95d88_14 : decode cJ13_bitCount_95d88 14 = .ok (.land, 1) := by decide +kernel
theorem dJ13_bitCount_95d88_15 : decode cJ13_bitCount_95d88 15 = .ok (.lload_n 0, 1) := by decide +kernel
theorem dJ13_bitCount_95d88_16 : decode cJ13_bitCount_95d88 16 = .ok (.iconst 2, 1) := by decide +kernel
theorem dJ13_bitCount_95d88_17 : decode cJ13_bitCount_95d88 17 = .ok (.lushr, 1) := by decide +kernel
theorem dJ13_bitCount_95d88_18 : decode cJ13_bitCount_95d88 18 = .ok (.ldc2_w 316, 3) := by decide +kernel
theorem dJ13_bitCount_95d88_21 : decode cJ13_bitCount_95d88 21 = .ok (.land, 1) := by decide +kernel
theorem dJ13_bitCount_95d88_22 : decode cJ13_bitCount_95d88 22 = .ok (.ladd, 1) := by decide +kernel
theorem dJ13_bitCount_95d88_23 : decode cJ13_bitCount_95d88 23 = .ok (.lstore_n 0, 1) := by decide +kernel
theorem dJ13_bitCount_95d88_24 : decode cJ13_bitCount_95d88 24 = .ok (.lload_n 0, 1) := by decide +kernel
theorem dJ13_bitCount_95d88_25 : decode cJ13_bitCount_95d88 25 = .ok (.lload_n 0, 1) := by decide +kernel
theorem dJ13_bitCount_95d88_26 : decode cJ13_bitCount_95d88 26 = .ok (.iconst 4, 1) := by decide +kernel
theorem dJ13_bitCount_95d88_27 : decode cJ13_bitCount_95d88 27 = .ok (.lushr, 1) := by decide +kernel
theorem dJ13_bitCount_95d88_28 : decode cJ13_bitCount_95d88 28 = .ok (.ladd, 1) := by decide +kernel
theorem dJ13_bitCount_95d88_29 : decode cJ13_bitCount_95d88 29 = .ok (.ldc2_w 318, 3) := by decide +kernel
theorem dJ13_bitCount_95d88_32 : decode cJ13_bitCount_95d88 32 = .ok (.land, 1) := by decide +kernel
theorem dJ13_bitCount_95d88_33 : decode cJ13_bitCount_95d88 33 = .ok (.lstore_n 0, 1) := by decide +kernel
theorem dJ13_bitCount_95d88_34 : decode cJ13_bitCount_95d88 34 = .ok (.lload_n 0, 1) := by decide +kernel
theorem dJ13_bitCount_95d88_35 : decode cJ13_bitCount_95d88 35 = .ok (.lload_n 0, 1) := by decide +kernel
theorem dJ13_bitCount_95d88_36 : decode cJ13_bitCount_95d88 36 = .ok (.bipush 8, 2) := by decide +kernel
theorem dJ13_bitCount_95d88_38 : decode cJ13_bitCount_95d88 38 = .ok (.lushr, 1) := by decide +kernel
theorem dJ13_bitCount_95d88_39 : decode cJ13_bitCount_95d88 39 = .ok (.ladd, 1) := by decide +kernel
theorem dJ13_bitCount_95d88_40 : decode cJ13_bitCount_95d88 40 = .ok (.lstore_n 0, 1) := by decide +kernel
theorem dJ13_bitCount_95d88_41 : decode cJ13_bitCount_95d88 41 = .ok (.lload_n 0, 1) := by decide +kernel
theorem dJ13_bitCount_95d88_42 : decode cJ13_bitCount_95d88 42 = .ok (.lload_n 0, 1) := by decide +kernel
theorem dJ13_bitCount_95d88_43 : decode cJ13_bitCount_95d88 43 = .ok (.bipush 16, 2) := by decide +kernel
theorem dJ13_bitCount_95d88_45 : decode cJ13_bitCount_95d88 45 = .ok (.lushr, 1) := by decide +kernel
theorem dJ13_bitCount_95d88_46 : decode cJ13_bitCount_95d88 46 = .ok (.ladd, 1) := by decide +kernel
theorem dJ13_bitCount_95d88_47 : decode cJ13_bitCount_95d88 47 = .ok (.lstore_n 0, 1) := by decide +kernel
theorem dJ13_bitCount_95d88_48 : decode cJ13_bitCount_95d88 48 = .ok (.lload_n 0, 1) := by decide +kernel
theorem dJ13_bitCount_95d88_49 : decode cJ13_bitCount_95d88 49 = .ok (.lload_n 0, 1) := by decide +kernel
theorem dJ13_bitCount_95d88_50 : decode cJ13_bitCount_95d88 50 = .ok (.bipush 32, 2) := by decide +kernel
theorem dJ13_bitCount_95d88_52 : decode cJ13_bitCount_95d88 52 = .ok (.lushr, 1) := by decide +kernel
theorem dJ13_bitCount_95d88_53 : decode cJ13_bitCount_95d88 53 = .ok (.ladd, 1) := by decide +kernel
theorem dJ13_bitCount_95d88_54 : decode cJ13_bitCount_95d88 54 = .ok (.lstore_n 0, 1) := by decide +kernel
theorem dJ13_bitCount_95d88_55 : decode cJ13_bitCount_95d88 55 = .ok (.lload_n 0, 1) := by decide +kernel
theorem dJ13_bitCount_95d88_56 : decode cJ13_bitCount_95d88 56 = .ok (.l2i, 1) := by decide +kernel
theorem dJ13_bitCount_95d88_57 : decode cJ13_bitCount_95d88 57 = .ok (.bipush 127, 2) := by decide +kernel
theorem dJ13_bitCount_95d88_59 : decode cJ13_bitCount_95d88 59 = .ok (.iand, 1) := by decide +kernel
theorem dJ13_bitCount_95d88_60 : decode cJ13_bitCount_95d88 60 = .ok (.ireturn, 1) := by decide +kernel
theorem dJ9_max_7cf53_0 : decode cJ9_max_7cf53 0 = .ok (.iload_n 0, 1) := by decide +kernel
theorem dJ9_max_7cf53_1 : decode cJ9_max_7cf53 1 = .ok (.iload_n 1, 1) := by decide +kernel
theorem dJ9_max_7cf53_2 : decode cJ9_max_7cf53 2 = .ok (.if_icmp .lt 7, 3) := by decide +kernel
theorem dJ9_max_7cf53_5 : decode cJ9_max_7cf53 5 = .ok (.iload_n 0, 1) := by decide +kernel
theorem dJ9_max_7cf53_6 : decode cJ9_max_7cf53 6 = .ok (.goto 4, 3) := by decide +kernel
theorem dJ9_max_7cf53_9 : decode cJ9_max_7cf53 9 = .ok (.iload_n 1, 1) := by decide +kernel
theorem dJ9_max_7cf53_10 : decode cJ9_max_7cf53 10 = .ok (.ireturn, 1) := by decide +kernel
theorem dJ7_fill_d0a16_0 : decode cJ7_fill_d0a16 0 = .ok (.iconst 0, 1) := by decide +kernel
theorem dJ7_fill_d0a16_1 : decode cJ7_fill_d0a16 1 = .ok (.istore_n 3, 1) := by decide +kernel
theorem dJ7_fill_d0a16_2 : decode cJ7_fill_d0a16 2 = .ok (.aload_n 0, 1) := by decide +kernel
theorem dJ7_fill_d0a16_3 : decode cJ7_fill_d0a16 3 = .ok (.arraylength, 1) := by decide +kernel
theorem dJ7_fill_d0a16_4 : decode cJ7_fill_d0a16 4 = .ok (.istore 4, 2) := by decide +kernel
theorem dJ7_fill_d0a16_6 : decode cJ7_fill_d0a16 6 = .ok (.iload_n 3, 1) := by decide +kernel
theorem dJ7_fill_d0a16_7 : decode cJ7_fill_d0a16 7 = .ok (.iload 4, 2) := by decide +kernel
theorem dJ7_fill_d0a16_9 : decode cJ7_fill_d0a16 9 = .ok (.if_icmp .ge 13, 3) := by decide +kernel
theorem dJ7_fill_d0a16_12 : decode cJ7_fill_d0a16 12 = .ok (.aload_n 0, 1) := by decide +kernel
theorem dJ7_fill_d0a16_13 : decode cJ7_fill_d0a16 13 = .ok (.iload_n 3, 1) := by decide +kernel
theorem dJ7_fill_d0a16_14 : decode cJ7_fill_d0a16 14 = .ok (.lload_n 1, 1) := by decide +kernel
theorem dJ7_fill_d0a16_15 : decode cJ7_fill_d0a16 15 = .ok (.lastore, 1) := by decide +kernel
theorem dJ7_fill_d0a16_16 : decode cJ7_fill_d0a16 16 = .ok (.iinc 3 1, 3) := by decide +kernel
theorem dJ7_fill_d0a16_19 : decode cJ7_fill_d0a16 19 = .ok (.goto (-13), 3) := by decide +kernel
theorem dJ7_fill_d0a16_22 : decode cJ7_fill_d0a16 22 = .ok (.return_, 1) := by decide +kernel
set_option maxRecDepth 20000 in
theorem ggL_law_X4_init : GoodIn wsL_law wsX4_init := goodIn_r _ [8, 9, 10, 11, 12, 13, 14, 15, 16, 17, 18, 19, 20, 21, 22, 23, 24, 25, 26, 27, 28, 29, 30, 31, 32, 33, 34, 35, 36, 37, 38, 39, 40, 41, 42, 43, 44, 45, 46, 47, 48, 49, 50, 51, 52, 53, 54, 55, 56, 57, 58, 59, 60, 61, 62, 63, 64, 65, 66, 67, 68, 739, 740, 741, 742, 743, 714, 715, 716, 717, 718, 744, 745, 746, 747, 748, 749, 750, 751, 752, 753, 754, 755] (by decide +kernel) (by decide +kernel)
set_option maxRecDepth 20000 in
theorem gL_law_X4_init : GoodIn wsL_law (wsX4_init) := ggL_law_X4_init
set_option maxRecDepth 20000 in
theorem ggL_law_X5_init : GoodIn wsL_law wsX5_init := goodIn_r _ [71, 72, 10, 11, 35, 73, 74, 75, 76, 77, 78, 79, 80, 81, 82, 83, 84, 719, 720, 721, 722, 723, 724, 725, 726, 727, 728, 729, 730, 731, 732, 733, 734, 735, 736, 737, 738] (by decide +kernel) (by decide +kernel)
set_option maxRecDepth 20000 in
theorem gL_law_X5_init : GoodIn wsL_law (wsX5_init) := ggL_law_X5_init
set_option maxRecDepth 20000 in
theorem ggL_law_X4_send : GoodIn wsL_law wsX4_send := goodIn_r _ [88, 15, 28, 89, 90, 2, 91, 92, 93, 94, 14, 95, 37, 96, 97, 98, 99, 100, 101, 102, 103, 104, 105, 106, 107, 27, 108, 109, 66, 110, 111, 112, 113, 114, 115, 116, 117, 34, 39, 40, 41, 42, 36, 118, 119, 120, 121, 122, 123, 124, 125, 126, 127, 128, 129, 130, 131, 132, 133, 134, 135, 136, 137, 138, 139, 140, 141, 142, 143, 144, 145, 38, 146, 147, 148, 149, 714, 715, 716, 717, 718, 739, 740, 741, 742, 743, 752, 753, 754, 755] (by decide +kernel) (by decide +kernel)
set_option maxRecDepth 20000 in
theorem gL_law_X4_send : GoodIn wsL_law (wsV RL 13 RX4 yX4_send wsX4_send) := goodIn_app (goodIn_of _ (by decide +kernel)) ggL_law_X4_send
set_option maxRecDepth 20000 in
theorem ggL_law_X5_send : GoodIn wsL_law wsX5_send := goodIn_r _ [153, 73, 154, 155, 5, 156, 157, 158, 159, 160, 76, 161, 162, 163, 164, 165, 166, 167, 168, 169, 170, 171, 172, 173, 174, 175, 176, 177, 178, 179, 180, 181, 182, 183, 184, 185, 186, 187, 188, 74, 719, 720, 721, 722, 723, 724, 725, 726, 727, 728, 729, 730, 731, 732, 733, 734, 735, 736, 737, 738] (by decide +kernel) (by decide +kernel)
set_option maxRecDepth 20000 in
theorem gL_law_X5_send : GoodIn wsL_law (wsV RL 17 RX5 yX5_send wsX5_send) := goodIn_app (goodIn_of _ (by decide +kernel)) ggL_law_X5_send
set_option maxRecDepth 20000 in
theorem ggL_law_X4_pause : GoodIn wsL_law wsX4_pause := goodIn_r _ [192, 193, 194, 195, 2, 196, 15, 28, 100, 101, 102, 14, 103, 104, 105, 106, 107, 27, 108, 109, 66, 110, 111, 112, 113, 114, 115, 116, 117, 34, 39, 40, 41, 42, 36, 37, 118, 197, 198, 199, 200, 124, 138, 139, 140, 141, 142, 143, 144, 145, 38, 146, 147, 148, 149, 714, 715, 716, 717, 718, 739, 740, 741, 742, 743, 752, 753, 754, 755] (by decide +kernel) (by decide +kernel)
set_option maxRecDepth 20000 in
theorem gL_law_X4_pause : GoodIn wsL_law (wsV RL 18 RX4 yX4_pause wsX4_pause) := goodIn_app (goodIn_of _ (by decide +kernel)) ggL_law_X4_pause
set_option maxRecDepth 20000 in
theorem ggL_law_X5_pause : GoodIn wsL_law wsX5_pause := goodIn_r _ [204, 205, 206, 207, 5, 208, 73, 154, 155, 156, 157, 158, 159, 160, 76, 209, 210, 211, 212, 184, 185, 186, 187, 188, 74, 719, 720, 721, 722, 723, 724, 725, 726, 727, 728, 729, 730, 731, 732, 733, 734, 735, 736, 737, 738] (by decide +kernel) (by decide +kernel)
set_option maxRecDepth 20000 in
theorem gL_law_X5_pause : GoodIn wsL_law (wsV RL 21 RX5 yX5_pause wsX5_pause) := goodIn_app (goodIn_of _ (by decide +kernel)) ggL_law_X5_pause
set_option maxRecDepth 20000 in
theorem ggL_law_X4_sendBreak : GoodIn wsL_law wsX4_sendBreak := goodIn_r _ [216, 193, 194, 195, 2, 196, 15, 28, 100, 101, 102, 14, 103, 104, 105, 106, 107, 27, 108, 109, 66, 110, 111, 112, 113, 114, 115, 116, 117, 34, 39, 40, 41, 42, 36, 37, 118, 197, 198, 199, 200, 124, 138, 139, 140, 141, 142, 143, 144, 145, 38, 146, 147, 148, 149, 714, 715, 716, 717, 718, 739, 740, 741, 742, 743, 752, 753, 754, 755] (by decide +kernel) (by decide +kernel)
set_option maxRecDepth 20000 in
theorem gL_law_X4_sendBreak : GoodIn wsL_law (wsV RL 22 RX4 yX4_sendBreak wsX4_sendBreak) := goodIn_app (goodIn_of _ (by decide +kernel)) ggL_law_X4_sendBreak
set_option maxRecDepth 20000 in
theorem ggL_law_X5_sendBreak : GoodIn wsL_law wsX5_sendBreak := goodIn_r _ [220, 205, 206, 207, 5, 208, 73, 154, 155, 156, 157, 158, 159, 160, 76, 209, 210, 211, 212, 184, 185, 186, 187, 188, 74, 719, 720, 721, 722, 723, 724, 725, 726, 727, 728, 729, 730, 731, 732, 733, 734, 735, 736, 737, 738] (by decide +kernel) (by decide +kernel)
set_option maxRecDepth 20000 in
theorem gL_law_X5_sendBreak : GoodIn wsL_law (wsV RL 25 RX5 yX5_sendBreak wsX5_sendBreak) := goodIn_app (goodIn_of _ (by decide +kernel)) ggL_law_X5_sendBreak
set_option maxRecDepth 20000 in
theorem ggL_law_X4_disturb : GoodIn wsL_law wsX4_disturb := goodIn_r _ [224, 15, 28, 225, 226, 2, 227, 146, 147, 148, 14, 149, 104, 105, 106, 107, 27, 108, 109, 66, 110, 111, 112, 113, 114, 115, 116, 117, 34, 39, 40, 41, 42, 36, 37, 118, 228, 229, 230, 231, 142, 143, 144, 145, 232, 233, 234, 235, 714, 715, 716, 717, 718, 739, 740, 741, 742, 743, 752, 753, 754, 755] (by decide +kernel) (by decide +kernel)
set_option maxRecDepth 20000 in
theorem gL_law_X4_disturb : GoodIn wsL_law (wsV RL 26 RX4 yX4_disturb wsX4_disturb) := goodIn_app (goodIn_of _ (by decide +kernel)) ggL_law_X4_disturb
set_option maxRecDepth 20000 in
theorem ggL_law_X5_disturb : GoodIn wsL_law wsX5_disturb := goodIn_r _ [239, 73, 154, 155, 5, 156, 240, 241, 242, 243, 157, 158, 159, 160, 76, 184, 185, 186, 187, 188, 74, 244, 245, 246, 247, 719, 720, 721, 722, 723, 724, 725, 726, 727, 728, 729, 730, 731, 732, 733, 734, 735, 736, 737, 738] (by decide +kernel) (by decide +kernel)
set_option maxRecDepth 20000 in
theorem gL_law_X5_disturb : GoodIn wsL_law (wsV RL 30 RX5 yX5_disturb wsX5_disturb) := goodIn_app (goodIn_of _ (by decide +kernel)) ggL_law_X5_disturb
set_option maxRecDepth 20000 in
theorem ggL_law_X4_clear : GoodIn wsL_law wsX4_clear := goodIn_r _ [251, 15, 28, 146, 147, 148, 14, 149, 104, 105, 106, 107, 27, 108, 109, 66, 110, 111, 112, 113, 114, 115, 116, 117, 34, 39, 40, 41, 42, 36, 37, 118, 252, 253, 254, 255, 38, 43, 44, 45, 46, 714, 715, 716, 717, 718, 739, 740, 741, 742, 743, 752, 753, 754, 755] (by decide +kernel) (by decide +kernel)
set_option maxRecDepth 20000 in
theorem gL_law_X4_clear : GoodIn wsL_law (wsV RL 31 RX4 yX4_clear wsX4_clear) := goodIn_app (goodIn_of _ (by decide +kernel)) ggL_law_X4_clear
set_option maxRecDepth 20000 in
theorem ggL_law_X5_clear : GoodIn wsL_law wsX5_clear := goodIn_r _ [259, 73, 240, 241, 242, 5, 243, 157, 158, 159, 160, 76, 184, 185, 186, 187, 188, 74, 719, 720, 721, 722, 723, 724, 725, 726, 727, 728, 729, 730, 731, 732, 733, 734, 735, 736, 737, 738] (by decide +kernel) (by decide +kernel)
set_option maxRecDepth 20000 in
theorem gL_law_X5_clear : GoodIn wsL_law (wsV RL 35 RX5 yX5_clear wsX5_clear) := goodIn_app (goodIn_of _ (by decide +kernel)) ggL_law_X5_clear
set_option maxRecDepth 20000 in
theorem ggL_law_X4_set : GoodIn wsL_law wsX4_set := goodIn_r _ [263, 264, 265, 15, 28, 266, 267, 268, 14, 269, 37, 105, 106, 107, 27, 108, 109, 66, 110, 111, 112, 113, 114, 115, 116, 117, 34, 39, 40, 41, 42, 36, 104, 118, 270, 271, 272, 273, 714, 715, 716, 717, 718, 739, 740, 741, 742, 743, 752, 753, 754, 755] (by decide +kernel) (by decide +kernel)
set_option maxRecDepth 20000 in
theorem gL_law_X4_set : GoodIn wsL_law (wsV RL 36 RX4 yX4_set wsX4_set) := goodIn_app (goodIn_of _ (by decide +kernel)) ggL_law_X4_set
set_option maxRecDepth 20000 in
theorem ggL_law_X5_set : GoodIn wsL_law wsX5_set := goodIn_r _ [277, 73, 154, 155, 5, 156, 278, 279, 280, 240, 241, 242, 243, 157, 158, 159, 160, 76, 184, 185, 186, 187, 188, 74, 719, 720, 721, 722, 723, 724, 725, 726, 727, 728, 729, 730, 731, 732, 733, 734, 735, 736, 737, 738] (by decide +kernel) (by decide +kernel)
set_option maxRecDepth 20000 in
theorem gL_law_X5_set : GoodIn wsL_law (wsV RL 39 RX5 yX5_set wsX5_set) := goodIn_app (goodIn_of _ (by decide +kernel)) ggL_law_X5_set
set_option maxRecDepth 20000 in
theorem ggL_law_X4_learn : GoodIn wsL_law wsX4_learn := goodIn_r _ [284, 15, 28, 285, 286, 287, 14, 288, 289, 290, 291, 292, 104, 293, 294, 295, 296, 142, 143, 144, 145, 297, 298, 299, 300, 34, 38, 301, 302, 303, 304, 305, 306, 307, 308, 309, 310, 266, 267, 268, 269, 37, 105, 106, 107, 27, 108, 109, 66, 110, 111, 112, 113, 114, 115, 116, 117, 39, 40, 41, 42, 36, 118, 270, 271, 272, 273, 714, 715, 716, 717, 718, 739, 740, 741, 742, 743, 752, 753, 754, 755] (by decide +kernel) (by decide +kernel)
set_option maxRecDepth 20000 in
theorem gL_law_X4_learn : GoodIn wsL_law (wsV RL 40 RX4 yX4_learn wsX4_learn) := goodIn_app (goodIn_of _ (by decide +kernel)) ggL_law_X4_learn
set_option maxRecDepth 20000 in
theorem ggL_law_X5_learn : GoodIn wsL_law wsX5_learn := goodIn_r _ [314, 73, 315, 316, 317, 5, 318, 319, 320, 321, 322, 323, 324, 325, 326, 327, 328, 329, 330, 154, 155, 156, 240, 241, 242, 243, 157, 158, 159, 160, 76, 184, 185, 186, 187, 188, 74, 719, 720, 721, 722, 723, 724, 725, 726, 727, 728, 729, 730, 731, 732, 733, 734, 735, 736, 737, 738] (by decide +kernel) (by decide +kernel)
set_option maxRecDepth 20000 in
theorem gL_law_X5_learn : GoodIn wsL_law (wsV RL 43 RX5 yX5_learn wsX5_learn) := goodIn_app (goodIn_of _ (by decide +kernel)) ggL_law_X5_learn
set_option maxRecDepth 20000 in
theorem ggL_law_X4_type : GoodIn wsL_law wsX4_type := goodIn_r _ [334, 24, 335, 336, 337, 23, 338, 339, 58, 340, 341, 342, 343, 714, 715, 716, 717, 718, 748, 749, 750, 751] (by decide +kernel) (by decide +kernel)
set_option maxRecDepth 20000 in
theorem gL_law_X4_type : GoodIn wsL_law (wsV RL 44 RX4 yX4_type wsX4_type) := goodIn_app (goodIn_of _ (by decide +kernel)) ggL_law_X4_type
set_option maxRecDepth 20000 in
theorem ggL_law_X5_type : GoodIn wsL_law wsX5_type := goodIn_r _ [347, 348, 77, 719, 720, 721, 722, 723, 724, 725, 726, 727, 728, 729, 730, 731, 732, 733, 734, 735, 736, 737, 738] (by decide +kernel) (by decide +kernel)
set_option maxRecDepth 20000 in
theorem gL_law_X5_type : GoodIn wsL_law (wsV RL 48 RX5 yX5_type wsX5_type) := goodIn_app (goodIn_of _ (by decide +kernel)) ggL_law_X5_type
set_option maxRecDepth 20000 in
theorem ggL_law_X4_clearText : GoodIn wsL_law wsX4_clearText := goodIn_r _ [352, 24, 340, 341, 342, 23, 343, 339, 353, 354, 355, 356, 714, 715, 716, 717, 718, 748, 749, 750, 751] (by decide +kernel) (by decide +kernel)
set_option maxRecDepth 20000 in
theorem gL_law_X4_clearText : GoodIn wsL_law (wsV RL 49 RX4 yX4_clearText wsX4_clearText) := goodIn_app (goodIn_of _ (by decide +kernel)) ggL_law_X4_clearText
set_option maxRecDepth 20000 in
theorem ggL_law_X5_clearText : GoodIn wsL_law wsX5_clearText := goodIn_r _ [360, 348, 719, 720, 721, 722, 723, 724, 725, 726, 727, 728, 729, 730, 731, 732, 733, 734, 735, 736, 737, 738] (by decide +kernel) (by decide +kernel)
set_option maxRecDepth 20000 in
theorem gL_law_X5_clearText : GoodIn wsL_law (wsV RL 52 RX5 yX5_clearText wsX5_clearText) := goodIn_app (goodIn_of _ (by decide +kernel)) ggL_law_X5_clearText
set_option maxRecDepth 20000 in
theorem ggL_law_X4_perform : GoodIn wsL_law wsX4_perform := goodIn_r _ [364, 24, 16, 15, 28, 365, 366, 367, 23, 368, 339, 369, 370, 371, 372, 58, 373, 374, 375, 376, 377, 378, 379, 380, 381, 382, 383, 384, 385, 386, 387, 388, 389, 390, 391, 392, 393, 394, 115, 116, 14, 117, 34, 39, 40, 41, 42, 36, 37, 104, 118, 395, 396, 397, 398, 399, 59, 400, 401, 402, 403, 60, 404, 405, 406, 407, 408, 409, 410, 411, 412, 413, 414, 415, 416, 198, 199, 200, 124, 101, 102, 103, 138, 139, 140, 141, 142, 143, 144, 145, 38, 417, 120, 121, 122, 123, 93, 94, 95, 96, 97, 98, 99, 125, 126, 127, 128, 129, 2, 130, 131, 132, 133, 134, 135, 136, 137, 418, 419, 420, 421, 105, 106, 107, 27, 108, 109, 66, 110, 111, 112, 113, 114, 146, 147, 148, 149, 714, 715, 716, 717, 718, 748, 749, 750, 751, 739, 740, 741, 742, 743, 752, 753, 754, 755] (by decide +kernel) (by decide +kernel)
set_option maxRecDepth 20000 in
theorem gL_law_X4_perform : GoodIn wsL_law (wsV RL 53 RX4 yX4_perform wsX4_perform) := goodIn_app (goodIn_of _ (by decide +kernel)) ggL_law_X4_perform
set_option maxRecDepth 20000 in
theorem ggL_law_X5_perform : GoodIn wsL_law wsX5_perform := goodIn_r _ [425, 426, 427, 348, 79, 78, 73, 428, 429, 430, 5, 431, 432, 433, 434, 435, 436, 437, 438, 439, 77, 154, 155, 156, 440, 441, 442, 443, 444, 445, 446, 447, 448, 449, 450, 157, 158, 159, 160, 76, 451, 452, 453, 454, 209, 210, 211, 212, 161, 162, 163, 164, 165, 166, 167, 168, 169, 170, 171, 172, 173, 174, 175, 176, 177, 178, 179, 180, 181, 182, 183, 455, 456, 457, 458, 459, 460, 461, 462, 184, 185, 186, 187, 188, 74, 719, 720, 721, 722, 723, 724, 725, 726, 727, 728, 729, 730, 731, 732, 733, 734, 735, 736, 737, 738] (by decide +kernel) (by decide +kernel)
set_option maxRecDepth 20000 in
theorem gL_law_X5_perform : GoodIn wsL_law (wsV RL 56 RX5 yX5_perform wsX5_perform) := goodIn_app (goodIn_of _ (by decide +kernel)) ggL_law_X5_perform
set_option maxRecDepth 20000 in
theorem ggL_law_X4_undo : GoodIn wsL_law wsX4_undo := goodIn_r _ [466, 28, 15, 467, 468, 469, 27, 470, 109, 66, 114, 115, 116, 14, 117, 34, 39, 40, 41, 42, 36, 37, 104, 118, 471, 472, 473, 474, 714, 715, 716, 717, 718, 752, 753, 754, 755, 739, 740, 741, 742, 743] (by decide +kernel) (by decide +kernel)
set_option maxRecDepth 20000 in
theorem gL_law_X4_undo : GoodIn wsL_law (wsV RL 57 RX4 yX4_undo wsX4_undo) := goodIn_app (goodIn_of _ (by decide +kernel)) ggL_law_X4_undo
set_option maxRecDepth 20000 in
theorem ggL_law_X5_undo : GoodIn wsL_law wsX5_undo := goodIn_r _ [478, 188, 73, 74, 719, 720, 721, 722, 723, 724, 725, 726, 727, 728, 729, 730, 731, 732, 733, 734, 735, 736, 737, 738] (by decide +kernel) (by decide +kernel)
set_option maxRecDepth 20000 in
theorem gL_law_X5_undo : GoodIn wsL_law (wsV RL 60 RX5 yX5_undo wsX5_undo) := goodIn_app (goodIn_of _ (by decide +kernel)) ggL_law_X5_undo
set_option maxRecDepth 20000 in
theorem ggL_law_X4_keep : GoodIn wsL_law wsX4_keep := goodIn_r _ [482, 28, 15, 483, 484, 485, 27, 486, 67, 487, 114, 115, 116, 14, 117, 34, 39, 40, 41, 42, 36, 37, 104, 118, 146, 147, 148, 149, 714, 715, 716, 717, 718, 752, 753, 754, 755, 739, 740, 741, 742, 743] (by decide +kernel) (by decide +kernel)
set_option maxRecDepth 20000 in
theorem gL_law_X4_keep : GoodIn wsL_law (wsV RL 61 RX4 yX4_keep wsX4_keep) := goodIn_app (goodIn_of _ (by decide +kernel)) ggL_law_X4_keep
set_option maxRecDepth 20000 in
theorem ggL_law_X5_keep : GoodIn wsL_law wsX5_keep := goodIn_r _ [491, 75, 73, 492, 719, 720, 721, 722, 723, 724, 725, 726, 727, 728, 729, 730, 731, 732, 733, 734, 735, 736, 737, 738] (by decide +kernel) (by decide +kernel)
set_option maxRecDepth 20000 in
theorem gL_law_X5_keep : GoodIn wsL_law (wsV RL 64 RX5 yX5_keep wsX5_keep) := goodIn_app (goodIn_of _ (by decide +kernel)) ggL_law_X5_keep
set_option maxRecDepth 20000 in
theorem ggL_law_X4_restore : GoodIn wsL_law wsX4_restore := goodIn_r _ [496, 28, 15, 497, 498, 499, 27, 500, 487, 105, 106, 107, 108, 109, 66, 110, 111, 112, 113, 114, 115, 116, 14, 117, 34, 39, 40, 41, 42, 36, 37, 104, 118, 501, 502, 503, 504, 67, 146, 147, 148, 149, 714, 715, 716, 717, 718, 752, 753, 754, 755, 739, 740, 741, 742, 743] (by decide +kernel) (by decide +kernel)
set_option maxRecDepth 20000 in
theorem gL_law_X4_restore : GoodIn wsL_law (wsV RL 65 RX4 yX4_restore wsX4_restore) := goodIn_app (goodIn_of _ (by decide +kernel)) ggL_law_X4_restore
set_option maxRecDepth 20000 in
theorem ggL_law_X5_restore : GoodIn wsL_law wsX5_restore := goodIn_r _ [508, 492, 73, 75, 240, 241, 242, 5, 243, 157, 158, 159, 160, 76, 184, 185, 186, 187, 188, 74, 719, 720, 721, 722, 723, 724, 725, 726, 727, 728, 729, 730, 731, 732, 733, 734, 735, 736, 737, 738] (by decide +kernel) (by decide +kernel)
set_option maxRecDepth 20000 in
theorem gL_law_X5_restore : GoodIn wsL_law (wsV RL 68 RX5 yX5_restore wsX5_restore) := goodIn_app (goodIn_of _ (by decide +kernel)) ggL_law_X5_restore
set_option maxRecDepth 20000 in
theorem ggL_law_X4_level : GoodIn wsL_law wsX4_level := goodIn_r _ [512, 15, 513, 233, 234, 14, 235, 104, 34, 714, 715, 716, 717, 718, 739, 740, 741, 742, 743] (by decide +kernel) (by decide +kernel)
set_option maxRecDepth 20000 in
theorem gL_law_X4_level : GoodIn wsL_law (wsV RL 69 RX4 yX4_level wsX4_level) := goodIn_app (goodIn_of _ (by decide +kernel)) ggL_law_X4_level
set_option maxRecDepth 20000 in
theorem ggL_law_X5_level : GoodIn wsL_law wsX5_level := goodIn_r _ [517, 327, 328, 329, 5, 330, 73, 719, 720, 721, 722, 723, 724, 725, 726, 727, 728, 729, 730, 731, 732, 733, 734, 735, 736, 737, 738] (by decide +kernel) (by decide +kernel)
set_option maxRecDepth 20000 in
theorem gL_law_X5_level : GoodIn wsL_law (wsV RL 72 RX5 yX5_level wsX5_level) := goodIn_app (goodIn_of _ (by decide +kernel)) ggL_law_X5_level
set_option maxRecDepth 20000 in
theorem ggL_law_X4_fall : GoodIn wsL_law wsX4_fall := goodIn_r _ [521, 15, 522, 290, 291, 14, 292, 104, 293, 294, 295, 296, 142, 143, 144, 145, 297, 298, 299, 300, 34, 38, 301, 302, 303, 304, 305, 306, 307, 308, 309, 310, 714, 715, 716, 717, 718, 739, 740, 741, 742, 743] (by decide +kernel) (by decide +kernel)
set_option maxRecDepth 20000 in
theorem gL_law_X4_fall : GoodIn wsL_law (wsV RL 73 RX4 yX4_fall wsX4_fall) := goodIn_app (goodIn_of _ (by decide +kernel)) ggL_law_X4_fall
set_option maxRecDepth 20000 in
theorem ggL_law_X5_fall : GoodIn wsL_law wsX5_fall := goodIn_r _ [526, 319, 320, 321, 5, 322, 73, 323, 324, 325, 326, 327, 328, 329, 330, 719, 720, 721, 722, 723, 724, 725, 726, 727, 728, 729, 730, 731, 732, 733, 734, 735, 736, 737, 738] (by decide +kernel) (by decide +kernel)
set_option maxRecDepth 20000 in
theorem gL_law_X5_fall : GoodIn wsL_law (wsV RL 76 RX5 yX5_fall wsX5_fall) := goodIn_app (goodIn_of _ (by decide +kernel)) ggL_law_X5_fall
set_option maxRecDepth 20000 in
theorem ggL_law_X4_sent : GoodIn wsL_law wsX4_sent := goodIn_r _ [530, 15, 531, 532, 533, 14, 534, 118, 36, 714, 715, 716, 717, 718, 739, 740, 741, 742, 743] (by decide +kernel) (by decide +kernel)
set_option maxRecDepth 20000 in
theorem gL_law_X4_sent : GoodIn wsL_law (wsV RL 77 RX4 yX4_sent wsX4_sent) := goodIn_app (goodIn_of _ (by decide +kernel)) ggL_law_X4_sent
set_option maxRecDepth 20000 in
theorem ggL_law_X5_sent : GoodIn wsL_law wsX5_sent := goodIn_r _ [538, 73, 719, 720, 721, 722, 723, 724, 725, 726, 727, 728, 729, 730, 731, 732, 733, 734, 735, 736, 737, 738] (by decide +kernel) (by decide +kernel)
set_option maxRecDepth 20000 in
theorem gL_law_X5_sent : GoodIn wsL_law (wsV RL 80 RX5 yX5_sent wsX5_sent) := goodIn_app (goodIn_of _ (by decide +kernel)) ggL_law_X5_sent
set_option maxRecDepth 20000 in
theorem ggL_law_X4_received : GoodIn wsL_law wsX4_received := goodIn_r _ [542, 20, 15, 266, 267, 268, 14, 269, 37, 543, 544, 545, 19, 546, 547, 548, 549, 143, 144, 145, 550, 294, 295, 296, 142, 104, 297, 298, 299, 300, 34, 38, 301, 302, 303, 304, 305, 306, 307, 308, 309, 310, 551, 147, 148, 149, 552, 553, 554, 555, 556, 557, 558, 559, 560, 561, 233, 234, 235, 562, 563, 564, 565, 566, 567, 568, 569, 570, 571, 129, 2, 130, 131, 132, 133, 134, 135, 136, 137, 572, 573, 574, 575, 52, 576, 577, 578, 579, 714, 715, 716, 717, 718, 739, 740, 741, 742, 743, 744, 745, 746, 747] (by decide +kernel) (by decide +kernel)
set_option maxRecDepth 20000 in
theorem gL_law_X4_received : GoodIn wsL_law (wsV RL 81 RX4 yX4_received wsX4_received) := goodIn_app (goodIn_of _ (by decide +kernel)) ggL_law_X4_received
set_option maxRecDepth 20000 in
theorem ggL_law_X5_received : GoodIn wsL_law wsX5_received := goodIn_r _ [583, 73, 584, 80, 81, 82, 83, 84, 154, 155, 5, 156, 585, 586, 587, 588, 589, 590, 323, 324, 325, 326, 327, 328, 329, 330, 591, 592, 593, 594, 595, 596, 597, 598, 177, 178, 179, 180, 181, 182, 183, 719, 720, 721, 722, 723, 724, 725, 726, 727, 728, 729, 730, 731, 732, 733, 734, 735, 736, 737, 738] (by decide +kernel) (by decide +kernel)
set_option maxRecDepth 20000 in
theorem gL_law_X5_received : GoodIn wsL_law (wsV RL 84 RX5 yX5_received wsX5_received) := goodIn_app (goodIn_of _ (by decide +kernel)) ggL_law_X5_received
set_option maxRecDepth 20000 in
theorem ggL_law_X4_total : GoodIn wsL_law wsX4_total := goodIn_r _ [602, 15, 28, 24, 266, 267, 268, 14, 269, 37, 146, 147, 148, 149, 104, 603, 604, 605, 606, 118, 607, 608, 609, 610, 297, 298, 299, 300, 34, 38, 301, 302, 303, 304, 305, 306, 307, 611, 612, 613, 614, 285, 286, 287, 288, 289, 290, 291, 292, 293, 294, 295, 296, 142, 143, 144, 145, 308, 309, 310, 471, 472, 473, 27, 474, 109, 340, 341, 342, 23, 343, 339, 615, 616, 617, 2, 618, 20, 543, 544, 545, 19, 546, 547, 548, 549, 550, 551, 552, 553, 554, 555, 556, 557, 558, 559, 560, 561, 233, 234, 235, 562, 563, 564, 565, 566, 567, 568, 569, 570, 571, 129, 130, 131, 132, 133, 134, 135, 136, 137, 572, 573, 574, 575, 52, 619, 620, 621, 622, 623, 624, 625, 626, 627, 577, 578, 579, 628, 629, 630, 631, 632, 633, 634, 635, 636, 637, 638, 639, 640, 641, 532, 533, 534, 36, 642, 643, 644, 645, 714, 715, 716, 717, 718, 739, 740, 741, 742, 743, 752, 753, 754, 755, 748, 749, 750, 751, 744, 745, 746, 747] (by decide +kernel) (by decide +kernel)
set_option maxRecDepth 20000 in
theorem gL_law_X4_total : GoodIn wsL_law (wsV RL 85 RX4 yX4_total wsX4_total) := goodIn_app (goodIn_of _ (by decide +kernel)) ggL_law_X4_total
set_option maxRecDepth 20000 in
theorem ggL_law_X5_total : GoodIn wsL_law wsX5_total := goodIn_r _ [649, 73, 188, 348, 154, 155, 5, 156, 650, 651, 652, 653, 584, 589, 590, 585, 586, 587, 588, 84, 80, 83, 323, 324, 325, 326, 327, 328, 329, 330, 591, 592, 593, 594, 81, 82, 595, 596, 597, 598, 177, 178, 179, 180, 181, 182, 183, 654, 655, 656, 657, 658, 659, 660, 661, 662, 663, 664, 665, 666, 667, 668, 669, 315, 316, 317, 318, 319, 320, 321, 322, 719, 720, 721, 722, 723, 724, 725, 726, 727, 728, 729, 730, 731, 732, 733, 734, 735, 736, 737, 738] (by decide +kernel) (by decide +kernel)
set_option maxRecDepth 20000 in
theorem gL_law_X5_total : GoodIn wsL_law (wsV RL 88 RX5 yX5_total wsX5_total) := goodIn_app (goodIn_of _ (by decide +kernel)) ggL_law_X5_total
set_option maxRecDepth 20000 in
theorem ggL_law_X4_ifLength : GoodIn wsL_law wsX4_ifLength := goodIn_r _ [673, 20, 15, 543, 544, 545, 19, 546, 547, 548, 549, 143, 144, 145, 550, 294, 295, 14, 296, 142, 104, 297, 298, 299, 300, 34, 38, 301, 302, 303, 304, 305, 306, 307, 308, 309, 310, 551, 147, 148, 149, 552, 553, 554, 555, 556, 557, 558, 559, 560, 561, 233, 234, 235, 562, 563, 564, 565, 267, 268, 269, 37, 566, 567, 568, 569, 570, 571, 129, 2, 130, 131, 132, 133, 134, 135, 136, 137, 572, 573, 574, 575, 52, 619, 620, 621, 622, 623, 624, 625, 626, 627, 577, 578, 579, 632, 633, 634, 635, 636, 637, 638, 639, 640, 604, 605, 606, 118, 641, 532, 533, 534, 36, 642, 643, 644, 645, 714, 715, 716, 717, 718, 744, 745, 746, 747, 739, 740, 741, 742, 743] (by decide +kernel) (by decide +kernel)
set_option maxRecDepth 20000 in
theorem gL_law_X4_ifLength : GoodIn wsL_law (wsV RL 89 RX4 yX4_ifLength wsX4_ifLength) := goodIn_app (goodIn_of _ (by decide +kernel)) ggL_law_X4_ifLength
set_option maxRecDepth 20000 in
theorem ggL_law_X5_ifLength : GoodIn wsL_law wsX5_ifLength := goodIn_r _ [677, 584, 590, 154, 155, 5, 156, 585, 586, 587, 588, 589, 73, 84, 80, 83, 323, 324, 325, 326, 327, 328, 329, 330, 591, 592, 593, 594, 81, 82, 595, 596, 597, 598, 177, 178, 179, 180, 181, 182, 183, 658, 659, 660, 661, 654, 655, 656, 657, 719, 720, 721, 722, 723, 724, 725, 726, 727, 728, 729, 730, 731, 732, 733, 734, 735, 736, 737, 738] (by decide +kernel) (by decide +kernel)
set_option maxRecDepth 20000 in
theorem gL_law_X5_ifLength : GoodIn wsL_law (wsV RL 92 RX5 yX5_ifLength wsX5_ifLength) := goodIn_app (goodIn_of _ (by decide +kernel)) ggL_law_X5_ifLength
set_option maxRecDepth 20000 in
theorem ggL_law_X4_goodLength : GoodIn wsL_law wsX4_goodLength := goodIn_r _ [681, 15, 682, 683, 684, 2, 685, 20, 543, 544, 545, 19, 546, 547, 548, 549, 143, 144, 145, 550, 294, 295, 14, 296, 142, 104, 297, 298, 299, 300, 34, 38, 301, 302, 303, 304, 305, 306, 307, 308, 309, 310, 551, 147, 148, 149, 552, 553, 554, 555, 556, 557, 558, 559, 560, 561, 233, 234, 235, 562, 563, 564, 565, 267, 268, 269, 37, 566, 567, 568, 569, 570, 571, 129, 130, 131, 132, 133, 134, 135, 136, 137, 572, 573, 574, 575, 52, 636, 637, 638, 639, 640, 604, 605, 606, 118, 641, 532, 533, 534, 36, 642, 643, 644, 645, 627, 577, 578, 579, 714, 715, 716, 717, 718, 744, 745, 746, 747, 739, 740, 741, 742, 743] (by decide +kernel) (by decide +kernel)
set_option maxRecDepth 20000 in
theorem gL_law_X4_goodLength : GoodIn wsL_law (wsV RL 93 RX4 yX4_goodLength wsX4_goodLength) := goodIn_app (goodIn_of _ (by decide +kernel)) ggL_law_X4_goodLength
set_option maxRecDepth 20000 in
theorem ggL_law_X5_goodLength : GoodIn wsL_law wsX5_goodLength := goodIn_r _ [689, 690, 691, 692, 5, 693, 585, 586, 587, 588, 584, 589, 590, 73, 84, 80, 83, 323, 324, 325, 326, 327, 328, 329, 330, 591, 592, 593, 594, 81, 82, 595, 596, 597, 598, 177, 178, 179, 180, 181, 182, 183, 654, 655, 656, 657, 719, 720, 721, 722, 723, 724, 725, 726, 727, 728, 729, 730, 731, 732, 733, 734, 735, 736, 737, 738] (by decide +kernel) (by decide +kernel)
set_option maxRecDepth 20000 in
theorem gL_law_X5_goodLength : GoodIn wsL_law (wsV RL 97 RX5 yX5_goodLength wsX5_goodLength) := goodIn_app (goodIn_of _ (by decide +kernel)) ggL_law_X5_goodLength
set_option maxRecDepth 20000 in
theorem ggL_law_X4_harm : GoodIn wsL_law wsX4_harm := goodIn_r _ [697, 16, 15, 225, 226, 2, 227, 394, 115, 116, 14, 117, 34, 39, 40, 41, 42, 36, 37, 104, 118, 146, 147, 148, 149, 228, 229, 230, 231, 142, 143, 144, 145, 232, 233, 234, 235, 266, 267, 268, 269, 682, 683, 684, 685, 20, 543, 544, 545, 19, 546, 547, 548, 549, 550, 294, 295, 296, 297, 298, 299, 300, 38, 301, 302, 303, 304, 305, 306, 307, 308, 309, 310, 551, 552, 553, 554, 555, 556, 557, 558, 559, 560, 561, 562, 563, 564, 565, 566, 567, 568, 569, 570, 571, 129, 130, 131, 132, 133, 134, 135, 136, 137, 572, 573, 574, 575, 52, 636, 637, 638, 639, 640, 604, 605, 606, 641, 532, 533, 534, 642, 643, 644, 645, 627, 577, 578, 579, 714, 715, 716, 717, 718, 739, 740, 741, 742, 743, 744, 745, 746, 747] (by decide +kernel) (by decide +kernel)
set_option maxRecDepth 20000 in
theorem gL_law_X4_harm : GoodIn wsL_law (wsV RL 98 RX4 yX4_harm wsX4_harm) := goodIn_app (goodIn_of _ (by decide +kernel)) ggL_law_X4_harm
set_option maxRecDepth 20000 in
theorem ggL_law_X5_harm : GoodIn wsL_law wsX5_harm := goodIn_r _ [701, 73, 154, 155, 5, 156, 244, 245, 246, 247, 690, 691, 692, 693, 585, 586, 587, 588, 584, 589, 590, 84, 80, 83, 323, 324, 325, 326, 327, 328, 329, 330, 591, 592, 593, 594, 81, 82, 595, 596, 597, 598, 177, 178, 179, 180, 181, 182, 183, 654, 655, 656, 657, 719, 720, 721, 722, 723, 724, 725, 726, 727, 728, 729, 730, 731, 732, 733, 734, 735, 736, 737, 738] (by decide +kernel) (by decide +kernel)
set_option maxRecDepth 20000 in
theorem gL_law_X5_harm : GoodIn wsL_law (wsV RL 101 RX5 yX5_harm wsX5_harm) := goodIn_app (goodIn_of _ (by decide +kernel)) ggL_law_X5_harm
set_option maxRecDepth 20000 in
theorem ggL_law_X4_ifSent : GoodIn wsL_law wsX4_ifSent := goodIn_r _ [705, 16, 15, 20, 89, 90, 2, 91, 394, 115, 116, 14, 117, 34, 39, 40, 41, 42, 36, 37, 104, 118, 119, 120, 121, 122, 123, 93, 94, 95, 96, 97, 98, 99, 124, 101, 102, 103, 125, 126, 127, 128, 129, 130, 131, 132, 133, 134, 135, 136, 137, 138, 139, 140, 141, 142, 143, 144, 145, 38, 266, 267, 268, 269, 543, 544, 545, 19, 546, 547, 548, 549, 550, 294, 295, 296, 297, 298, 299, 300, 301, 302, 303, 304, 305, 306, 307, 308, 309, 310, 551, 147, 148, 149, 552, 553, 554, 555, 556, 557, 558, 559, 560, 561, 233, 234, 235, 562, 563, 564, 565, 566, 567, 568, 569, 570, 571, 572, 573, 574, 575, 52, 706, 707, 708, 709, 642, 643, 644, 645, 627, 577, 578, 579, 714, 715, 716, 717, 718, 739, 740, 741, 742, 743, 744, 745, 746, 747] (by decide +kernel) (by decide +kernel)
set_option maxRecDepth 20000 in
theorem gL_law_X4_ifSent : GoodIn wsL_law (wsV RL 102 RX4 yX4_ifSent wsX4_ifSent) := goodIn_app (goodIn_of _ (by decide +kernel)) ggL_law_X4_ifSent
set_option maxRecDepth 20000 in
theorem ggL_law_X5_ifSent : GoodIn wsL_law wsX5_ifSent := goodIn_r _ [713, 73, 584, 80, 81, 154, 155, 5, 156, 157, 158, 159, 160, 76, 161, 162, 163, 164, 165, 166, 167, 168, 169, 170, 171, 172, 173, 174, 175, 176, 177, 178, 179, 180, 181, 182, 183, 585, 586, 587, 588, 589, 590, 84, 83, 323, 324, 325, 326, 327, 328, 329, 330, 591, 592, 593, 594, 82, 595, 596, 597, 598, 455, 456, 457, 458, 719, 720, 721, 722, 723, 724, 725, 726, 727, 728, 729, 730, 731, 732, 733, 734, 735, 736, 737, 738] (by decide +kernel) (by decide +kernel)
set_option maxRecDepth 20000 in
theorem gL_law_X5_ifSent : GoodIn wsL_law (wsV RL 105 RX5 yX5_ifSent wsX5_ifSent) := goodIn_app (goodIn_of _ (by decide +kernel)) ggL_law_X5_ifSent
theorem dL_law_0 : decode cL_law 0 = .ok (.new 7, 3) := by decide +kernel
theorem dL_law_3 : decode cL_law 3 = .ok (.dup, 1) := by decide +kernel
theorem dL_law_4 : decode cL_law 4 = .ok (.invokespecial 9, 3) := by decide +kernel
theorem dL_law_7 : decode cL_law 7 = .ok (.astore_n 1, 1) := by decide +kernel
theorem dL_law_8 : decode cL_law 8 = .ok (.new 10, 3) := by decide +kernel
theorem dL_law_11 : decode cL_law 11 = .ok (.dup, 1) := by decide +kernel
theorem dL_law_12 : decode cL_law 12 = .ok (.invokespecial 12, 3) := by decide +kernel
theorem dL_law_15 : decode cL_law 15 = .ok (.astore_n 2, 1) := by decide +kernel
theorem dL_law_16 : decode cL_law 16 = .ok (.iconst 0, 1) := by decide +kernel
theorem dL_law_17 : decode cL_law 17 = .ok (.istore_n 3, 1) := by decide +kernel
theorem dL_law_18 : decode cL_law 18 = .ok (.iload_n 3, 1) := by decide +kernel
theorem dL_law_19 : decode cL_law 19 = .ok (.aload_n 0, 1) := by decide +kernel
theorem dL_law_20 : decode cL_law 20 = .ok (.arraylength, 1) := by decide +kernel
theorem dL_law_21 : decode cL_law 21 = .ok (.iconst 3, 1) := by decide +kernel
theorem dL_law_22 : decode cL_law 22 = .ok (.isub, 1) := by decide +kernel
theorem dL_law_23 : decode cL_law 23 = .ok (.if_icmp .gt 613, 3) := by decide +kernel
theorem dL_law_26 : decode cL_law 26 = .ok (.aload_n 0, 1) := by decide +kernel
theorem dL_law_27 : decode cL_law 27 = .ok (.iload_n 3, 1) := by decide +kernel
theorem dL_law_28 : decode cL_law 28 = .ok (.iaload, 1) := by decide +kernel
theorem dL_law_29 : decode cL_law 29 = .ok (.bipush 31, 2) := by decide +kernel
theorem dL_law_31 : decode cL_law 31 = .ok (.iand, 1) := by decide +kernel
theorem dL_law_32 : decode cL_law 32 = .ok (.tableswitch 598 0 21 #[104, 127, 150, 173, 206, 219, 252, 265, 290, 303, 316, 329, 342, 355, 378, 401, 424, 457, 480, 513, 552, 575], 104) := by decide +kernel
theorem dL_law_136 : decode cL_law 136 = .ok (.aload_n 1, 1) := by decide +kernel
theorem dL_law_137 : decode cL_law 137 = .ok (.aload_n 0, 1) := by decide +kernel
theorem dL_law_138 : decode cL_law 138 = .ok (.iload_n 3, 1) := by decide +kernel
theorem dL_law_139 : decode cL_law 139 = .ok (.iconst 1, 1) := by decide +kernel
theorem dL_law_140 : decode cL_law 140 = .ok (.iadd, 1) := by decide +kernel
theorem dL_law_141 : decode cL_law 141 = .ok (.iaload, 1) := by decide +kernel
theorem dL_law_142 : decode cL_law 142 = .ok (.invokevirtual 13, 3) := by decide +kernel
theorem dL_law_145 : decode cL_law 145 = .ok (.aload_n 2, 1) := by decide +kernel
theorem dL_law_146 : decode cL_law 146 = .ok (.aload_n 0, 1) := by decide +kernel
theorem dL_law_147 : decode cL_law 147 = .ok (.iload_n 3, 1) := by decide +kernel
theorem dL_law_148 : decode cL_law 148 = .ok (.iconst 1, 1) := by decide +kernel
theorem dL_law_149 : decode cL_law 149 = .ok (.iadd, 1) := by decide +kernel
theorem dL_law_150 : decode cL_law 150 = .ok (.iaload, 1) := by decide +kernel
theorem dL_law_151 : decode cL_law 151 = .ok (.invokevirtual 17, 3) := by decide +kernel
theorem dL_law_154 : decode cL_law 154 = .ok (.if_icmp .eq 476, 3) := by decide +kernel
theorem dL_law_157 : decode cL_law 157 = .ok (.iconst 0, 1) := by decide +kernel
theorem dL_law_158 : decode cL_law 158 = .ok (.ireturn, 1) := by decide +kernel
theorem dL_law_159 : decode cL_law 159 = .ok (.aload_n 1, 1) := by decide +kernel
theorem dL_law_160 : decode cL_law 160 = .ok (.aload_n 0, 1) := by decide +kernel
theorem dL_law_161 : decode cL_law 161 = .ok (.iload_n 3, 1) := by decide +kernel
theorem dL_law_162 : decode cL_law 162 = .ok (.iconst 1, 1) := by decide +kernel
theorem dL_law_163 : decode cL_law 163 = .ok (.iadd, 1) := by decide +kernel
theorem dL_law_164 : decode cL_law 164 = .ok (.iaload, 1) := by decide +kernel
theorem dL_law_165 : decode cL_law 165 = .ok (.invokevirtual 18, 3) := by decide +kernel
theorem dL_law_168 : decode cL_law 168 = .ok (.aload_n 2, 1) := by decide +kernel
theorem dL_law_169 : decode cL_law 169 = .ok (.aload_n 0, 1) := by decide +kernel
theorem dL_law_170 : decode cL_law 170 = .ok (.iload_n 3, 1) := by decide +kernel
theorem dL_law_171 : decode cL_law 171 = .ok (.iconst 1, 1) := by decide +kernel
theorem dL_law_172 : decode cL_law 172 = .ok (.iadd, 1) := by decide +kernel
theorem dL_law_173 : decode cL_law 173 = .ok (.iaload, 1) := by decide +kernel
theorem dL_law_174 : decode cL_law 174 = .ok (.invokevirtual 21, 3) := by decide +kernel
theorem dL_law_177 : decode cL_law 177 = .ok (.if_icmp .eq 453, 3) := by decide +kernel
theorem dL_law_180 : decode cL_law 180 = .ok (.iconst 0, 1) := by decide +kernel
theorem dL_law_181 : decode cL_law 181 = .ok (.ireturn, 1) := by decide +kernel
theorem dL_law_182 : decode cL_law 182 = .ok (.aload_n 1, 1) := by decide +kernel
theorem dL_law_183 : decode cL_law 183 = .ok (.aload_n 0, 1) := by decide +kernel
theorem dL_law_184 : decode cL_law 184 = .ok (.iload_n 3, 1) := by decide +kernel
theorem dL_law_185 : decode cL_law 185 = .ok (.iconst 1, 1) := by decide +kernel
theorem dL_law_186 : decode cL_law 186 = .ok (.iadd, 1) := by decide +kernel
theorem dL_law_187 : decode cL_law 187 = .ok (.iaload, 1) := by decide +kernel
theorem dL_law_188 : decode cL_law 188 = .ok (.invokevirtual 22, 3) := by decide +kernel
theorem dL_law_191 : decode cL_law 191 = .ok (.aload_n 2, 1) := by decide +kernel
theorem dL_law_192 : decode cL_law 192 = .ok (.aload_n 0, 1) := by decide +kernel
theorem dL_law_193 : decode cL_law 193 = .ok (.iload_n 3, 1) := by decide +kernel
theorem dL_law_194 : decode cL_law 194 = .ok (.iconst 1, 1) := by decide +kernel
theorem dL_law_195 : decode cL_law 195 = .ok (.iadd, 1) := by decide +kernel
theorem dL_law_196 : decode cL_law 196 = .ok (.iaload, 1) := by decide +kernel
theorem dL_law_197 : decode cL_law 197 = .ok (.invokevirtual 25, 3) := by decide +kernel
theorem dL_law_200 : decode cL_law 200 = .ok (.if_icmp .eq 430, 3) := by decide +kernel
theorem dL_law_203 : decode cL_law 203 = .ok (.iconst 0, 1) := by decide +kernel
theorem dL_law_204 : decode cL_law 204 = .ok (.ireturn, 1) := by decide +kernel
theorem dL_law_205 : decode cL_law 205 = .ok (.aload_n 1, 1) := by decide +kernel
theorem dL_law_206 : decode cL_law 206 = .ok (.aload_n 0, 1) := by decide +kernel
theorem dL_law_207 : decode cL_law 207 = .ok (.iload_n 3, 1) := by decide +kernel
theorem dL_law_208 : decode cL_law 208 = .ok (.iconst 1, 1) := by decide +kernel
theorem dL_law_209 : decode cL_law 209 = .ok (.iadd, 1) := by decide +kernel
theorem dL_law_210 : decode cL_law 210 = .ok (.iaload, 1) := by decide +kernel
theorem dL_law_211 : decode cL_law 211 = .ok (.aload_n 0, 1) := by decide +kernel
theorem dL_law_212 : decode cL_law 212 = .ok (.iload_n 3, 1) := by decide +kernel
theorem dL_law_213 : decode cL_law 213 = .ok (.iconst 2, 1) := by decide +kernel
theorem dL_law_214 : decode cL_law 214 = .ok (.iadd, 1) := by decide +kernel
theorem dL_law_215 : decode cL_law 215 = .ok (.iaload, 1) := by decide +kernel
theorem dL_law_216 : decode cL_law 216 = .ok (.invokevirtual 26, 3) := by decide +kernel
theorem dL_law_219 : decode cL_law 219 = .ok (.aload_n 2, 1) := by decide +kernel
theorem dL_law_220 : decode cL_law 220 = .ok (.aload_n 0, 1) := by decide +kernel
theorem dL_law_221 : decode cL_law 221 = .ok (.iload_n 3, 1) := by decide +kernel
theorem dL_law_222 : decode cL_law 222 = .ok (.iconst 1, 1) := by decide +kernel
theorem dL_law_223 : decode cL_law 223 = .ok (.iadd, 1) := by decide +kernel
theorem dL_law_224 : decode cL_law 224 = .ok (.iaload, 1) := by decide +kernel
theorem dL_law_225 : decode cL_law 225 = .ok (.aload_n 0, 1) := by decide +kernel
theorem dL_law_226 : decode cL_law 226 = .ok (.iload_n 3, 1) := by decide +kernel
theorem dL_law_227 : decode cL_law 227 = .ok (.iconst 2, 1) := by decide +kernel
theorem dL_law_228 : decode cL_law 228 = .ok (.iadd, 1) := by decide +kernel
theorem dL_law_229 : decode cL_law 229 = .ok (.iaload, 1) := by decide +kernel
theorem dL_law_230 : decode cL_law 230 = .ok (.invokevirtual 30, 3) := by decide +kernel
theorem dL_law_233 : decode cL_law 233 = .ok (.if_icmp .eq 397, 3) := by decide +kernel
theorem dL_law_236 : decode cL_law 236 = .ok (.iconst 0, 1) := by decide +kernel
theorem dL_law_237 : decode cL_law 237 = .ok (.ireturn, 1) := by decide +kernel
theorem dL_law_238 : decode cL_law 238 = .ok (.aload_n 1, 1) := by decide +kernel
theorem dL_law_239 : decode cL_law 239 = .ok (.invokevirtual 31, 3) := by decide +kernel
theorem dL_law_242 : decode cL_law 242 = .ok (.aload_n 2, 1) := by decide +kernel
theorem dL_law_243 : decode cL_law 243 = .ok (.invokevirtual 35, 3) := by decide +kernel
theorem dL_law_246 : decode cL_law 246 = .ok (.if_icmp .eq 384, 3) := by decide +kernel
theorem dL_law_249 : decode cL_law 249 = .ok (.iconst 0, 1) := by decide +kernel
theorem dL_law_250 : decode cL_law 250 = .ok (.ireturn, 1) := by decide +kernel
theorem dL_law_251 : decode cL_law 251 = .ok (.aload_n 1, 1) := by decide +kernel
theorem dL_law_252 : decode cL_law 252 = .ok (.aload_n 0, 1) := by decide +kernel
theorem dL_law_253 : decode cL_law 253 = .ok (.iload_n 3, 1) := by decide +kernel
theorem dL_law_254 : decode cL_law 254 = .ok (.iconst 1, 1) := by decide +kernel
theorem dL_law_255 : decode cL_law 255 = .ok (.iadd, 1) := by decide +kernel
theorem dL_law_256 : decode cL_law 256 = .ok (.iaload, 1) := by decide +kernel
theorem dL_law_257 : decode cL_law 257 = .ok (.aload_n 0, 1) := by decide +kernel
theorem dL_law_258 : decode cL_law 258 = .ok (.iload_n 3, 1) := by decide +kernel
theorem dL_law_259 : decode cL_law 259 = .ok (.iconst 2, 1) := by decide +kernel
theorem dL_law_260 : decode cL_law 260 = .ok (.iadd, 1) := by decide +kernel
theorem dL_law_261 : decode cL_law 261 = .ok (.iaload, 1) := by decide +kernel
theorem dL_law_262 : decode cL_law 262 = .ok (.invokevirtual 36, 3) := by decide +kernel
theorem dL_law_265 : decode cL_law 265 = .ok (.aload_n 2, 1) := by decide +kernel
theorem dL_law_266 : decode cL_law 266 = .ok (.aload_n 0, 1) := by decide +kernel
theorem dL_law_267 : decode cL_law 267 = .ok (.iload_n 3, 1) := by decide +kernel
theorem dL_law_268 : decode cL_law 268 = .ok (.iconst 1, 1) := by decide +kernel
theorem dL_law_269 : decode cL_law 269 = .ok (.iadd, 1) := by decide +kernel
theorem dL_law_270 : decode cL_law 270 = .ok (.iaload, 1) := by decide +kernel
theorem dL_law_271 : decode cL_law 271 = .ok (.aload_n 0, 1) := by decide +kernel
theorem dL_law_272 : decode cL_law 272 = .ok (.iload_n 3, 1) := by decide +kernel
theorem dL_law_273 : decode cL_law 273 = .ok (.iconst 2, 1) := by decide +kernel
theorem dL_law_274 : decode cL_law 274 = .ok (.iadd, 1) := by decide +kernel
theorem dL_law_275 : decode cL_law 275 = .ok (.iaload, 1) := by decide +kernel
theorem dL_law_276 : decode cL_law 276 = .ok (.invokevirtual 39, 3) := by decide +kernel
theorem dL_law_279 : decode cL_law 279 = .ok (.if_icmp .eq 351, 3) := by decide +kernel
theorem dL_law_282 : decode cL_law 282 = .ok (.iconst 0, 1) := by decide +kernel
theorem dL_law_283 : decode cL_law 283 = .ok (.ireturn, 1) := by decide +kernel
theorem dL_law_284 : decode cL_law 284 = .ok (.aload_n 1, 1) := by decide +kernel
theorem dL_law_285 : decode cL_law 285 = .ok (.invokevirtual 40, 3) := by decide +kernel
theorem dL_law_288 : decode cL_law 288 = .ok (.aload_n 2, 1) := by decide +kernel
theorem dL_law_289 : decode cL_law 289 = .ok (.invokevirtual 43, 3) := by decide +kernel
theorem dL_law_292 : decode cL_law 292 = .ok (.if_icmp .eq 338, 3) := by decide +kernel
theorem dL_law_295 : decode cL_law 295 = .ok (.iconst 0, 1) := by decide +kernel
theorem dL_law_296 : decode cL_law 296 = .ok (.ireturn, 1) := by decide +kernel
theorem dL_law_297 : decode cL_law 297 = .ok (.aload_n 1, 1) := by decide +kernel
theorem dL_law_298 : decode cL_law 298 = .ok (.aload_n 0, 1) := by decide +kernel
theorem dL_law_299 : decode cL_law 299 = .ok (.iload_n 3, 1) := by decide +kernel
theorem dL_law_300 : decode cL_law 300 = .ok (.iconst 1, 1) := by decide +kernel
theorem dL_law_301 : decode cL_law 301 = .ok (.iadd, 1) := by decide +kernel
theorem dL_law_302 : decode cL_law 302 = .ok (.iaload, 1) := by decide +kernel
theorem dL_law_303 : decode cL_law 303 = .ok (.i2c, 1) := by decide +kernel
theorem dL_law_304 : decode cL_law 304 = .ok (.invokevirtual 44, 3) := by decide +kernel
theorem dL_law_307 : decode cL_law 307 = .ok (.aload_n 2, 1) := by decide +kernel
theorem dL_law_308 : decode cL_law 308 = .ok (.aload_n 0, 1) := by decide +kernel
theorem dL_law_309 : decode cL_law 309 = .ok (.iload_n 3, 1) := by decide +kernel
theorem dL_law_310 : decode cL_law 310 = .ok (.iconst 1, 1) := by decide +kernel
theorem dL_law_311 : decode cL_law 311 = .ok (.iadd, 1) := by decide +kernel
theorem dL_law_312 : decode cL_law 312 = .ok (.iaload, 1) := by decide +kernel
theorem dL_law_313 : decode cL_law 313 = .ok (.i2c, 1) := by decide +kernel
theorem dL_law_314 : decode cL_law 314 = .ok (.invokevirtual 48, 3) := by decide +kernel
theorem dL_law_317 : decode cL_law 317 = .ok (.if_icmp .eq 313, 3) := by decide +kernel
theorem dL_law_320 : decode cL_law 320 = .ok (.iconst 0, 1) := by decide +kernel
theorem dL_law_321 : decode cL_law 321 = .ok (.ireturn, 1) := by decide +kernel
theorem dL_law_322 : decode cL_law 322 = .ok (.aload_n 1, 1) := by decide +kernel
theorem dL_law_323 : decode cL_law 323 = .ok (.invokevirtual 49, 3) := by decide +kernel
theorem dL_law_326 : decode cL_law 326 = .ok (.aload_n 2, 1) := by decide +kernel
theorem dL_law_327 : decode cL_law 327 = .ok (.invokevirtual 52, 3) := by decide +kernel
theorem dL_law_330 : decode cL_law 330 = .ok (.if_icmp .eq 300, 3) := by decide +kernel
theorem dL_law_333 : decode cL_law 333 = .ok (.iconst 0, 1) := by decide +kernel
theorem dL_law_334 : decode cL_law 334 = .ok (.ireturn, 1) := by decide +kernel
theorem dL_law_335 : decode cL_law 335 = .ok (.aload_n 1, 1) := by decide +kernel
theorem dL_law_336 : decode cL_law 336 = .ok (.invokevirtual 53, 3) := by decide +kernel
theorem dL_law_339 : decode cL_law 339 = .ok (.aload_n 2, 1) := by decide +kernel
theorem dL_law_340 : decode cL_law 340 = .ok (.invokevirtual 56, 3) := by decide +kernel
theorem dL_law_343 : decode cL_law 343 = .ok (.if_icmp .eq 287, 3) := by decide +kernel
theorem dL_law_346 : decode cL_law 346 = .ok (.iconst 0, 1) := by decide +kernel
theorem dL_law_347 : decode cL_law 347 = .ok (.ireturn, 1) := by decide +kernel
theorem dL_law_348 : decode cL_law 348 = .ok (.aload_n 1, 1) := by decide +kernel
theorem dL_law_349 : decode cL_law 349 = .ok (.invokevirtual 57, 3) := by decide +kernel
theorem dL_law_352 : decode cL_law 352 = .ok (.aload_n 2, 1) := by decide +kernel
theorem dL_law_353 : decode cL_law 353 = .ok (.invokevirtual 60, 3) := by decide +kernel
theorem dL_law_356 : decode cL_law 356 = .ok (.if_icmp .eq 274, 3) := by decide +kernel
theorem dL_law_359 : decode cL_law 359 = .ok (.iconst 0, 1) := by decide +kernel
theorem dL_law_360 : decode cL_law 360 = .ok (.ireturn, 1) := by decide +kernel
theorem dL_law_361 : decode cL_law 361 = .ok (.aload_n 1, 1) := by decide +kernel
theorem dL_law_362 : decode cL_law 362 = .ok (.invokevirtual 61, 3) := by decide +kernel
theorem dL_law_365 : decode cL_law 365 = .ok (.aload_n 2, 1) := by decide +kernel
theorem dL_law_366 : decode cL_law 366 = .ok (.invokevirtual 64, 3) := by decide +kernel
theorem dL_law_369 : decode cL_law 369 = .ok (.if_icmp .eq 261, 3) := by decide +kernel
theorem dL_law_372 : decode cL_law 372 = .ok (.iconst 0, 1) := by decide +kernel
theorem dL_law_373 : decode cL_law 373 = .ok (.ireturn, 1) := by decide +kernel
theorem dL_law_374 : decode cL_law 374 = .ok (.aload_n 1, 1) := by decide +kernel
theorem dL_law_375 : decode cL_law 375 = .ok (.invokevirtual 65, 3) := by decide +kernel
theorem dL_law_378 : decode cL_law 378 = .ok (.aload_n 2, 1) := by decide +kernel
theorem dL_law_379 : decode cL_law 379 = .ok (.invokevirtual 68, 3) := by decide +kernel
theorem dL_law_382 : decode cL_law 382 = .ok (.if_icmp .eq 248, 3) := by decide +kernel
theorem dL_law_385 : decode cL_law 385 = .ok (.iconst 0, 1) := by decide +kernel
theorem dL_law_386 : decode cL_law 386 = .ok (.ireturn, 1) := by decide +kernel
theorem dL_law_387 : decode cL_law 387 = .ok (.aload_n 1, 1) := by decide +kernel
theorem dL_law_388 : decode cL_law 388 = .ok (.aload_n 0, 1) := by decide +kernel
theorem dL_law_389 : decode cL_law 389 = .ok (.iload_n 3, 1) := by decide +kernel
theorem dL_law_390 : decode cL_law 390 = .ok (.iconst 1, 1) := by decide +kernel
theorem dL_law_391 : decode cL_law 391 = .ok (.iadd, 1) := by decide +kernel
theorem dL_law_392 : decode cL_law 392 = .ok (.iaload, 1) := by decide +kernel
theorem dL_law_393 : decode cL_law 393 = .ok (.invokevirtual 69, 3) := by decide +kernel
theorem dL_law_396 : decode cL_law 396 = .ok (.aload_n 2, 1) := by decide +kernel
theorem dL_law_397 : decode cL_law 397 = .ok (.aload_n 0, 1) := by decide +kernel
theorem dL_law_398 : decode cL_law 398 = .ok (.iload_n 3, 1) := by decide +kernel
theorem dL_law_399 : decode cL_law 399 = .ok (.iconst 1, 1) := by decide +kernel
theorem dL_law_400 : decode cL_law 400 = .ok (.iadd, 1) := by decide +kernel
theorem dL_law_401 : decode cL_law 401 = .ok (.iaload, 1) := by decide +kernel
theorem dL_law_402 : decode cL_law 402 = .ok (.invokevirtual 72, 3) := by decide +kernel
theorem dL_law_405 : decode cL_law 405 = .ok (.if_icmp .eq 225, 3) := by decide +kernel
theorem dL_law_408 : decode cL_law 408 = .ok (.iconst 0, 1) := by decide +kernel
theorem dL_law_409 : decode cL_law 409 = .ok (.ireturn, 1) := by decide +kernel
theorem dL_law_410 : decode cL_law 410 = .ok (.aload_n 1, 1) := by decide +kernel
theorem dL_law_411 : decode cL_law 411 = .ok (.aload_n 0, 1) := by decide +kernel
theorem dL_law_412 : decode cL_law 412 = .ok (.iload_n 3, 1) := by decide +kernel
theorem dL_law_413 : decode cL_law 413 = .ok (.iconst 1, 1) := by decide +kernel
theorem dL_law_414 : decode cL_law 414 = .ok (.iadd, 1) := by decide +kernel
theorem dL_law_415 : decode cL_law 415 = .ok (.iaload, 1) := by decide +kernel
theorem dL_law_416 : decode cL_law 416 = .ok (.invokevirtual 73, 3) := by decide +kernel
theorem dL_law_419 : decode cL_law 419 = .ok (.aload_n 2, 1) := by decide +kernel
theorem dL_law_420 : decode cL_law 420 = .ok (.aload_n 0, 1) := by decide +kernel
theorem dL_law_421 : decode cL_law 421 = .ok (.iload_n 3, 1) := by decide +kernel
theorem dL_law_422 : decode cL_law 422 = .ok (.iconst 1, 1) := by decide +kernel
theorem dL_law_423 : decode cL_law 423 = .ok (.iadd, 1) := by decide +kernel
theorem dL_law_424 : decode cL_law 424 = .ok (.iaload, 1) := by decide +kernel
theorem dL_law_425 : decode cL_law 425 = .ok (.invokevirtual 76, 3) := by decide +kernel
theorem dL_law_428 : decode cL_law 428 = .ok (.if_icmp .eq 202, 3) := by decide +kernel
theorem dL_law_431 : decode cL_law 431 = .ok (.iconst 0, 1) := by decide +kernel
theorem dL_law_432 : decode cL_law 432 = .ok (.ireturn, 1) := by decide +kernel
theorem dL_law_433 : decode cL_law 433 = .ok (.aload_n 1, 1) := by decide +kernel
theorem dL_law_434 : decode cL_law 434 = .ok (.aload_n 0, 1) := by decide +kernel
theorem dL_law_435 : decode cL_law 435 = .ok (.iload_n 3, 1) := by decide +kernel
theorem dL_law_436 : decode cL_law 436 = .ok (.iconst 1, 1) := by decide +kernel
theorem dL_law_437 : decode cL_law 437 = .ok (.iadd, 1) := by decide +kernel
theorem dL_law_438 : decode cL_law 438 = .ok (.iaload, 1) := by decide +kernel
theorem dL_law_439 : decode cL_law 439 = .ok (.invokevirtual 77, 3) := by decide +kernel
theorem dL_law_442 : decode cL_law 442 = .ok (.aload_n 2, 1) := by decide +kernel
theorem dL_law_443 : decode cL_law 443 = .ok (.aload_n 0, 1) := by decide +kernel
theorem dL_law_444 : decode cL_law 444 = .ok (.iload_n 3, 1) := by decide +kernel
theorem dL_law_445 : decode cL_law 445 = .ok (.iconst 1, 1) := by decide +kernel
theorem dL_law_446 : decode cL_law 446 = .ok (.iadd, 1) := by decide +kernel
theorem dL_law_447 : decode cL_law 447 = .ok (.iaload, 1) := by decide +kernel
theorem dL_law_448 : decode cL_law 448 = .ok (.invokevirtual 80, 3) := by decide +kernel
theorem dL_law_451 : decode cL_law 451 = .ok (.if_icmp .eq 179, 3) := by decide +kernel
theorem dL_law_454 : decode cL_law 454 = .ok (.iconst 0, 1) := by decide +kernel
theorem dL_law_455 : decode cL_law 455 = .ok (.ireturn, 1) := by decide +kernel
theorem dL_law_456 : decode cL_law 456 = .ok (.aload_n 1, 1) := by decide +kernel
theorem dL_law_457 : decode cL_law 457 = .ok (.aload_n 0, 1) := by decide +kernel
theorem dL_law_458 : decode cL_law 458 = .ok (.iload_n 3, 1) := by decide +kernel
theorem dL_law_459 : decode cL_law 459 = .ok (.iconst 1, 1) := by decide +kernel
theorem dL_law_460 : decode cL_law 460 = .ok (.iadd, 1) := by decide +kernel
theorem dL_law_461 : decode cL_law 461 = .ok (.iaload, 1) := by decide +kernel
theorem dL_law_462 : decode cL_law 462 = .ok (.aload_n 0, 1) := by decide +kernel
theorem dL_law_463 : decode cL_law 463 = .ok (.iload_n 3, 1) := by decide +kernel
theorem dL_law_464 : decode cL_law 464 = .ok (.iconst 2, 1) := by decide +kernel
theorem dL_law_465 : decode cL_law 465 = .ok (.iadd, 1) := by decide +kernel
theorem dL_law_466 : decode cL_law 466 = .ok (.iaload, 1) := by decide +kernel
theorem dL_law_467 : decode cL_law 467 = .ok (.invokevirtual 81, 3) := by decide +kernel
theorem dL_law_470 : decode cL_law 470 = .ok (.aload_n 2, 1) := by decide +kernel
theorem dL_law_471 : decode cL_law 471 = .ok (.aload_n 0, 1) := by decide +kernel
theorem dL_law_472 : decode cL_law 472 = .ok (.iload_n 3, 1) := by decide +kernel
theorem dL_law_473 : decode cL_law 473 = .ok (.iconst 1, 1) := by decide +kernel
theorem dL_law_474 : decode cL_law 474 = .ok (.iadd, 1) := by decide +kernel
theorem dL_law_475 : decode cL_law 475 = .ok (.iaload, 1) := by decide +kernel
theorem dL_law_476 : decode cL_law 476 = .ok (.aload_n 0, 1) := by decide +kernel
theorem dL_law_477 : decode cL_law 477 = .ok (.iload_n 3, 1) := by decide +kernel
theorem dL_law_478 : decode cL_law 478 = .ok (.iconst 2, 1) := by decide +kernel
theorem dL_law_479 : decode cL_law 479 = .ok (.iadd, 1) := by decide +kernel
theorem dL_law_480 : decode cL_law 480 = .ok (.iaload, 1) := by decide +kernel
theorem dL_law_481 : decode cL_law 481 = .ok (.invokevirtual 84, 3) := by decide +kernel
theorem dL_law_484 : decode cL_law 484 = .ok (.if_icmp .eq 146, 3) := by decide +kernel
theorem dL_law_487 : decode cL_law 487 = .ok (.iconst 0, 1) := by decide +kernel
theorem dL_law_488 : decode cL_law 488 = .ok (.ireturn, 1) := by decide +kernel
theorem dL_law_489 : decode cL_law 489 = .ok (.aload_n 1, 1) := by decide +kernel
theorem dL_law_490 : decode cL_law 490 = .ok (.aload_n 0, 1) := by decide +kernel
theorem dL_law_491 : decode cL_law 491 = .ok (.iload_n 3, 1) := by decide +kernel
theorem dL_law_492 : decode cL_law 492 = .ok (.iconst 1, 1) := by decide +kernel
theorem dL_law_493 : decode cL_law 493 = .ok (.iadd, 1) := by decide +kernel
theorem dL_law_494 : decode cL_law 494 = .ok (.iaload, 1) := by decide +kernel
theorem dL_law_495 : decode cL_law 495 = .ok (.invokevirtual 85, 3) := by decide +kernel
theorem dL_law_498 : decode cL_law 498 = .ok (.aload_n 2, 1) := by decide +kernel
theorem dL_law_499 : decode cL_law 499 = .ok (.aload_n 0, 1) := by decide +kernel
theorem dL_law_500 : decode cL_law 500 = .ok (.iload_n 3, 1) := by decide +kernel
theorem dL_law_501 : decode cL_law 501 = .ok (.iconst 1, 1) := by decide +kernel
theorem dL_law_502 : decode cL_law 502 = .ok (.iadd, 1) := by decide +kernel
theorem dL_law_503 : decode cL_law 503 = .ok (.iaload, 1) := by decide +kernel
theorem dL_law_504 : decode cL_law 504 = .ok (.invokevirtual 88, 3) := by decide +kernel
theorem dL_law_507 : decode cL_law 507 = .ok (.if_icmp .eq 123, 3) := by decide +kernel
theorem dL_law_510 : decode cL_law 510 = .ok (.iconst 0, 1) := by decide +kernel
theorem dL_law_511 : decode cL_law 511 = .ok (.ireturn, 1) := by decide +kernel
theorem dL_law_512 : decode cL_law 512 = .ok (.aload_n 1, 1) := by decide +kernel
theorem dL_law_513 : decode cL_law 513 = .ok (.aload_n 0, 1) := by decide +kernel
theorem dL_law_514 : decode cL_law 514 = .ok (.iload_n 3, 1) := by decide +kernel
theorem dL_law_515 : decode cL_law 515 = .ok (.iconst 1, 1) := by decide +kernel
theorem dL_law_516 : decode cL_law 516 = .ok (.iadd, 1) := by decide +kernel
theorem dL_law_517 : decode cL_law 517 = .ok (.iaload, 1) := by decide +kernel
theorem dL_law_518 : decode cL_law 518 = .ok (.aload_n 0, 1) := by decide +kernel
theorem dL_law_519 : decode cL_law 519 = .ok (.iload_n 3, 1) := by decide +kernel
theorem dL_law_520 : decode cL_law 520 = .ok (.iconst 2, 1) := by decide +kernel
theorem dL_law_521 : decode cL_law 521 = .ok (.iadd, 1) := by decide +kernel
theorem dL_law_522 : decode cL_law 522 = .ok (.iaload, 1) := by decide +kernel
theorem dL_law_523 : decode cL_law 523 = .ok (.invokevirtual 89, 3) := by decide +kernel
theorem dL_law_526 : decode cL_law 526 = .ok (.aload_n 2, 1) := by decide +kernel
theorem dL_law_527 : decode cL_law 527 = .ok (.aload_n 0, 1) := by decide +kernel
theorem dL_law_528 : decode cL_law 528 = .ok (.iload_n 3, 1) := by decide +kernel
theorem dL_law_529 : decode cL_law 529 = .ok (.iconst 1, 1) := by decide +kernel
theorem dL_law_530 : decode cL_law 530 = .ok (.iadd, 1) := by decide +kernel
theorem dL_law_531 : decode cL_law 531 = .ok (.iaload, 1) := by decide +kernel
theorem dL_law_532 : decode cL_law 532 = .ok (.aload_n 0, 1) := by decide +kernel
theorem dL_law_533 : decode cL_law 533 = .ok (.iload_n 3, 1) := by decide +kernel
theorem dL_law_534 : decode cL_law 534 = .ok (.iconst 2, 1) := by decide +kernel
theorem dL_law_535 : decode cL_law 535 = .ok (.iadd, 1) := by decide +kernel
theorem dL_law_536 : decode cL_law 536 = .ok (.iaload, 1) := by decide +kernel
theorem dL_law_537 : decode cL_law 537 = .ok (.invokevirtual 92, 3) := by decide +kernel
theorem dL_law_540 : decode cL_law 540 = .ok (.if_icmp .eq 90, 3) := by decide +kernel
theorem dL_law_543 : decode cL_law 543 = .ok (.iconst 0, 1) := by decide +kernel
theorem dL_law_544 : decode cL_law 544 = .ok (.ireturn, 1) := by decide +kernel
theorem dL_law_545 : decode cL_law 545 = .ok (.aload_n 1, 1) := by decide +kernel
theorem dL_law_546 : decode cL_law 546 = .ok (.aload_n 0, 1) := by decide +kernel
theorem dL_law_547 : decode cL_law 547 = .ok (.iload_n 3, 1) := by decide +kernel
theorem dL_law_548 : decode cL_law 548 = .ok (.iconst 1, 1) := by decide +kernel
theorem dL_law_549 : decode cL_law 549 = .ok (.iadd, 1) := by decide +kernel
theorem dL_law_550 : decode cL_law 550 = .ok (.iaload, 1) := by decide +kernel
theorem dL_law_551 : decode cL_law 551 = .ok (.ifCond .eq 7, 3) := by decide +kernel
theorem dL_law_554 : decode cL_law 554 = .ok (.iconst 1, 1) := by decide +kernel
theorem dL_law_555 : decode cL_law 555 = .ok (.goto 4, 3) := by decide +kernel
theorem dL_law_558 : decode cL_law 558 = .ok (.iconst 0, 1) := by decide +kernel
theorem dL_law_559 : decode cL_law 559 = .ok (.invokevirtual 93, 3) := by decide +kernel
theorem dL_law_562 : decode cL_law 562 = .ok (.aload_n 2, 1) := by decide +kernel
theorem dL_law_563 : decode cL_law 563 = .ok (.aload_n 0, 1) := by decide +kernel
theorem dL_law_564 : decode cL_law 564 = .ok (.iload_n 3, 1) := by decide +kernel
theorem dL_law_565 : decode cL_law 565 = .ok (.iconst 1, 1) := by decide +kernel
theorem dL_law_566 : decode cL_law 566 = .ok (.iadd, 1) := by decide +kernel
theorem dL_law_567 : decode cL_law 567 = .ok (.iaload, 1) := by decide +kernel
theorem dL_law_568 : decode cL_law 568 = .ok (.ifCond .eq 7, 3) := by decide +kernel
theorem dL_law_571 : decode cL_law 571 = .ok (.iconst 1, 1) := by decide +kernel
theorem dL_law_572 : decode cL_law 572 = .ok (.goto 4, 3) := by decide +kernel
theorem dL_law_575 : decode cL_law 575 = .ok (.iconst 0, 1) := by decide +kernel
theorem dL_law_576 : decode cL_law 576 = .ok (.invokevirtual 97, 3) := by decide +kernel
theorem dL_law_579 : decode cL_law 579 = .ok (.if_icmp .eq 51, 3) := by decide +kernel
theorem dL_law_582 : decode cL_law 582 = .ok (.iconst 0, 1) := by decide +kernel
theorem dL_law_583 : decode cL_law 583 = .ok (.ireturn, 1) := by decide +kernel
theorem dL_law_584 : decode cL_law 584 = .ok (.aload_n 1, 1) := by decide +kernel
theorem dL_law_585 : decode cL_law 585 = .ok (.aload_n 0, 1) := by decide +kernel
theorem dL_law_586 : decode cL_law 586 = .ok (.iload_n 3, 1) := by decide +kernel
theorem dL_law_587 : decode cL_law 587 = .ok (.iconst 1, 1) := by decide +kernel
theorem dL_law_588 : decode cL_law 588 = .ok (.iadd, 1) := by decide +kernel
theorem dL_law_589 : decode cL_law 589 = .ok (.iaload, 1) := by decide +kernel
theorem dL_law_590 : decode cL_law 590 = .ok (.invokevirtual 98, 3) := by decide +kernel
theorem dL_law_593 : decode cL_law 593 = .ok (.aload_n 2, 1) := by decide +kernel
theorem dL_law_594 : decode cL_law 594 = .ok (.aload_n 0, 1) := by decide +kernel
theorem dL_law_595 : decode cL_law 595 = .ok (.iload_n 3, 1) := by decide +kernel
theorem dL_law_596 : decode cL_law 596 = .ok (.iconst 1, 1) := by decide +kernel
theorem dL_law_597 : decode cL_law 597 = .ok (.iadd, 1) := by decide +kernel
theorem dL_law_598 : decode cL_law 598 = .ok (.iaload, 1) := by decide +kernel
theorem dL_law_599 : decode cL_law 599 = .ok (.invokevirtual 101, 3) := by decide +kernel
theorem dL_law_602 : decode cL_law 602 = .ok (.if_icmp .eq 28, 3) := by decide +kernel
theorem dL_law_605 : decode cL_law 605 = .ok (.iconst 0, 1) := by decide +kernel
theorem dL_law_606 : decode cL_law 606 = .ok (.ireturn, 1) := by decide +kernel
theorem dL_law_607 : decode cL_law 607 = .ok (.aload_n 1, 1) := by decide +kernel
theorem dL_law_608 : decode cL_law 608 = .ok (.aload_n 0, 1) := by decide +kernel
theorem dL_law_609 : decode cL_law 609 = .ok (.iload_n 3, 1) := by decide +kernel
theorem dL_law_610 : decode cL_law 610 = .ok (.iconst 1, 1) := by decide +kernel
theorem dL_law_611 : decode cL_law 611 = .ok (.iadd, 1) := by decide +kernel
theorem dL_law_612 : decode cL_law 612 = .ok (.iaload, 1) := by decide +kernel
theorem dL_law_613 : decode cL_law 613 = .ok (.invokevirtual 102, 3) := by decide +kernel
theorem dL_law_616 : decode cL_law 616 = .ok (.aload_n 2, 1) := by decide +kernel
theorem dL_law_617 : decode cL_law 617 = .ok (.aload_n 0, 1) := by decide +kernel
theorem dL_law_618 : decode cL_law 618 = .ok (.iload_n 3, 1) := by decide +kernel
theorem dL_law_619 : decode cL_law 619 = .ok (.iconst 1, 1) := by decide +kernel
theorem dL_law_620 : decode cL_law 620 = .ok (.iadd, 1) := by decide +kernel
theorem dL_law_621 : decode cL_law 621 = .ok (.iaload, 1) := by decide +kernel
theorem dL_law_622 : decode cL_law 622 = .ok (.invokevirtual 105, 3) := by decide +kernel
theorem dL_law_625 : decode cL_law 625 = .ok (.if_icmp .eq 5, 3) := by decide +kernel
theorem dL_law_628 : decode cL_law 628 = .ok (.iconst 0, 1) := by decide +kernel
theorem dL_law_629 : decode cL_law 629 = .ok (.ireturn, 1) := by decide +kernel
theorem dL_law_630 : decode cL_law 630 = .ok (.iinc 3 3, 3) := by decide +kernel
theorem dL_law_633 : decode cL_law 633 = .ok (.goto (-615), 3) := by decide +kernel
theorem dL_law_636 : decode cL_law 636 = .ok (.iconst 1, 1) := by decide +kernel
theorem dL_law_637 : decode cL_law 637 = .ok (.ireturn, 1) := by decide +kernel
abbrev vwCl : List vw_C := [(RX0, TX0, 4), (RX1, TX1, 4), (RX2, TX2, 5), (RX3, TX3, 4), (RX4, TX4, 5), (RX5, TX5, 20)]
/-! ===== END printed: names (the pool left out: it is refused) ===== -/
