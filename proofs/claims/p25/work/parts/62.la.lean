/-! THE LAW, walked: numbers, levels, runs -/
set_option maxHeartbeats 4000000 in
set_option maxRecDepth 100000 in
theorem k_L_low (l : Launch) (G : ZG)  (z : Int) (n : Nat) (hz : iR z) (hn : 1 ≤ n ∧ n ≤ 5000) : Kt l G yL_low wsL_low { frames := 0, cells := 0, slots := 0, locals := 0 } 0 0 False [.int (iI z), .int (iI ((n : Int)))] [] (fun v9 w9 => ∃ (r : Int), (0 ≤ r ∧ r < n) ∧ v9 = some (.int (iI r)) ∧ w9 = []) := by
  refine Kt.of (cc := cL_low) (nL := 2) (ret := (some .int)) (own := RL) rfl (by decide +kernel) rfl (Nat.le_of_ble_eq_true rfl) ?_
  intro X Y C R0 hin
  show Z l X G Y 2 0 0 0 [(0, .int (iI z)), (1, .int (iI ((n : Int))))] [] []
  refine z_iload_n (pc := 0) C dL_low_0 0 rfl ?_
  refine z_ldc (n := 2147483647) (pc := 1) C dL_low_1 (by decide +kernel) ?_
  obtain ⟨w, hw, ew⟩ := zmask31 z
  refine z_iand32 (pc := 3) C dL_low_3 ?_
  refine z_top ew ?_
  refine z_iload_n (pc := 4) C dL_low_4 1 rfl ?_
  refine z_irem (pc := 5) C dL_low_5 hw ⟨by omega, by omega⟩ ?_
  have hr1 := Int.emod_nonneg w (show (n : Int) ≠ 0 by omega)
  have hr2 := Int.emod_lt_of_pos w (show (0 : Int) < n by omega)
  exact z_iret (pc := 6) C R0 dL_low_6 (⟨w % (n : Int), ⟨hr1, hr2⟩, rfl, rfl⟩)

set_option maxHeartbeats 4000000 in
set_option maxRecDepth 100000 in
theorem k_L_level (l : Launch) (G : ZG) (aq al : Nat) (q : Nat → Int) (c : Nat → Bool) (z : Int) (s : ZS) (hz : iR z) (hS : zLq q c s) : Kt l G yL_level wsL_level { frames := 0, cells := 0, slots := 0, locals := 0 } 0 0 False [.int (iI z), .ref aq, .ref al] [cI G aq 7 q, cI G al 51 (zlr c)] (fun v9 w9 => v9 = some (.int (iI ((zlv s.1 z)))) ∧ w9 = [cI G aq 7 q, cI G al 51 (zlr c)]) := by
  refine Kt.of (cc := cL_level) (nL := 3) (ret := (some .int)) (own := RL) rfl (by decide +kernel) rfl (Nat.le_of_ble_eq_true rfl) ?_
  intro X Y C R0 hin
  show Z l X G Y 3 0 0 0 [(0, .int (iI z)), (1, .ref aq), (2, .ref al)] [] [cI G aq 7 q, cI G al 51 (zlr c)]
  obtain ⟨m0, m1, m2, m3, m4, m5, m6, he, hk⟩ := zLq_r hS
  have hIs := hS.1
  refine z_iload_n (pc := 0) C dL_level_0 0 rfl ?_
  refine z_if_lt (tgt := 11) (pc := 1) C dL_level_1 (by decide) ⟨by omega, by omega⟩ (fun c1 => ?_) (fun c1 => ?_)
  · refine z_iconst (pc := 11) C dL_level_11 ?_
    refine z_goto (tgt := 28) (pc := 12) C dL_level_12 (by decide) ?_
    refine z_topi (y := (zlv s.1 z)) ((zlv_neg c1).symm) ?_
    exact z_iret (pc := 28) C R0 dL_level_28 (⟨rfl, rfl⟩)
  · refine z_iload_n (pc := 4) C dL_level_4 0 rfl ?_
    refine z_aload_n (pc := 5) C dL_level_5 1 rfl ?_
    refine z_iconst (pc := 6) C dL_level_6 ?_
    refine z_iald (pc := 7) C dL_level_7 0 rfl (5) (rfl) (by omega) (by decide) ?_
    refine z_icmp_lt (tgt := 15) (pc := 8) C dL_level_8 (by decide) ⟨by omega, by omega⟩ ⟨by omega, by omega⟩ (fun c8 => ?_) (fun c8 => ?_)
    · refine z_aload_n (pc := 15) C dL_level_15 2 rfl ?_
      refine z_iload_n (pc := 16) C dL_level_16 0 rfl ?_
      refine z_bipush (pc := 17) C dL_level_17 (by decide +kernel) ?_
      refine z_idiv (pc := 19) C dL_level_19 ⟨by omega, by omega⟩ (by decide) ?_
      refine z_iald (pc := 20) C dL_level_20 1 rfl ((z.toNat / 30)) (by omega) (by omega) (by decide) ?_
      refine z_iload_n (pc := 21) C dL_level_21 0 rfl ?_
      refine z_bipush (pc := 22) C dL_level_22 (by decide +kernel) ?_
      refine z_irem (pc := 24) C dL_level_24 ⟨by omega, by omega⟩ (by decide) ?_
      refine z_topi (y := (((z.toNat % 30) : Nat) : Int)) (by omega) ?_
      refine z_ishr (pc := 25) C dL_level_25 (zlr_b _ _) ⟨by omega, by omega⟩ ?_
      refine z_iconst (pc := 26) C dL_level_26 ?_
      refine z_iand (pc := 27) C dL_level_27 ⟨Int.ediv_nonneg (zlr_b _ _).1 (by rw [Int.toNat_natCast]; exact Int.le_of_lt (Int.pow_pos (by decide))), Int.le_trans (Int.ediv_le_self _ (zlr_b _ _).1) (zlr_b _ _).2⟩ (by decide) ?_
      refine z_topi (y := (zlv s.1 z)) (by rw [zlr_lev]; exact zLq_lv hS (by omega) (by omega)) ?_
      exact z_iret (pc := 28) C R0 dL_level_28 (⟨rfl, rfl⟩)
    · refine z_iconst (pc := 11) C dL_level_11 ?_
      refine z_goto (tgt := 28) (pc := 12) C dL_level_12 (by decide) ?_
      refine z_topi (y := (zlv s.1 z)) ((zlv_end hIs (by omega)).symm) ?_
      exact z_iret (pc := 28) C R0 dL_level_28 (⟨rfl, rfl⟩)

set_option maxHeartbeats 4000000 in
set_option maxRecDepth 100000 in
theorem k_L_puts (l : Launch) (G : ZG) (al : Nat) (c : Nat → Bool) (t : Nat) (v : Int) (ht : t < 1530) (hv : 0 ≤ v ∧ v ≤ 1) : Kt l G yL_puts wsL_puts { frames := 0, cells := 0, slots := 0, locals := 0 } 0 0 False [.int (iI ((t : Int))), .int (iI v), .ref al] [cI G al 51 (zlr c)] (fun v9 w9 => v9 = none ∧ w9 = [cI G al 51 (zlr (zbU c t (decide ((v : Int) = 1))))]) := by
  refine Kt.of (cc := cL_puts) (nL := 3) (ret := none) (own := RL) rfl (by decide +kernel) rfl (Nat.le_of_ble_eq_true rfl) ?_
  intro X Y C R0 hin
  show Z l X G Y 3 0 0 0 [(0, .int (iI ((t : Int)))), (1, .int (iI v)), (2, .ref al)] [] [cI G al 51 (zlr c)]
  obtain ⟨vb, hvb⟩ : ∃ vb : Bool, v = zB vb := by
    rcases (show v = 0 ∨ v = 1 by omega) with q | q
    · exact ⟨false, q⟩
    · exact ⟨true, q⟩
  have hdv : decide (v = 1) = vb := by
    rw [hvb]
    cases vb <;> rfl
  refine z_aload_n (pc := 0) C dL_puts_0 2 rfl ?_
  refine z_iload_n (pc := 1) C dL_puts_1 0 rfl ?_
  refine z_bipush (pc := 2) C dL_puts_2 (by decide +kernel) ?_
  refine z_idiv (pc := 4) C dL_puts_4 ⟨by omega, by omega⟩ (by decide) ?_
  refine z_aload_n (pc := 5) C dL_puts_5 2 rfl ?_
  refine z_iload_n (pc := 6) C dL_puts_6 0 rfl ?_
  refine z_bipush (pc := 7) C dL_puts_7 (by decide +kernel) ?_
  refine z_idiv (pc := 9) C dL_puts_9 ⟨by omega, by omega⟩ (by decide) ?_
  refine z_iald (pc := 10) C dL_puts_10 0 rfl ((t / 30)) (by omega) (by omega) (by decide) ?_
  refine z_iconst (pc := 11) C dL_puts_11 ?_
  refine z_iload_n (pc := 12) C dL_puts_12 0 rfl ?_
  refine z_bipush (pc := 13) C dL_puts_13 (by decide +kernel) ?_
  refine z_irem (pc := 15) C dL_puts_15 ⟨by omega, by omega⟩ (by decide) ?_
  refine z_topi (y := (((t % 30) : Nat) : Int)) (by omega) ?_
  refine z_ishl (pc := 16) C dL_puts_16 (by decide) ⟨by omega, by omega⟩ (zpow_1 t) ?_
  refine z_topi (y := (((2 ^ (t % 30)) : Nat) : Int)) (zpow_i _) ?_
  refine z_iconst (pc := 17) C dL_puts_17 ?_
  refine z_ixor32 (pc := 18) C dL_puts_18 ?_
  refine z_iand32 (pc := 19) C dL_puts_19 ?_
  refine z_iload_n (pc := 20) C dL_puts_20 1 rfl ?_
  refine z_iload_n (pc := 21) C dL_puts_21 0 rfl ?_
  refine z_bipush (pc := 22) C dL_puts_22 (by decide +kernel) ?_
  refine z_irem (pc := 24) C dL_puts_24 ⟨by omega, by omega⟩ (by decide) ?_
  refine z_topi (y := (((t % 30) : Nat) : Int)) (by omega) ?_
  refine z_ishl (pc := 25) C dL_puts_25 (by omega) ⟨by omega, by omega⟩ (by rw [hvb]; exact zpow_2 vb t) ?_
  refine z_topi (y := (((vb.toNat * 2 ^ (t % 30)) : Nat) : Int)) (by rw [hvb]; exact zpow_v _ _) ?_
  refine z_ior32 (pc := 26) C dL_puts_26 ?_
  refine z_top (y := iI (zlr (zbU c t vb) (t / 30))) (zlr_put c t vb) ?_
  refine z_iast (ws' := [cI G al 51 (zU (zlr c) (t / 30) (zlr (zbU c t vb) (t / 30)))]) (pc := 27) C dL_puts_27 0 rfl ((t / 30)) (by omega) (by omega) (by decide) rfl ?_
  refine z_ws (ws' := [cI G al 51 (zlr (zbU c t (decide (v = 1))))]) [0] (by rw [zlr_upd, hdv]; rfl) (by decide) ?_
  exact z_vret (pc := 28) C R0 dL_puts_28 (⟨rfl, rfl⟩)

set_option maxHeartbeats 4000000 in
set_option maxRecDepth 100000 in
theorem k_L_parity (l : Launch) (G : ZG) (aq : Nat) (q : Nat → Int) (w : Nat) (hw : w ≤ 255) (hq2 : 0 ≤ q 2 ∧ q 2 ≤ 2) : Kt l G yL_parity wsL_parity { frames := 0, cells := 0, slots := 0, locals := 0 } 0 0 False [.int (iI ((w : Int))), .ref aq] [cI G aq 7 q] (fun v9 w9 => v9 = some (.int (iI ((zpar (q 2) w)))) ∧ w9 = [cI G aq 7 q]) := by
  refine Kt.of (cc := cL_parity) (nL := 4) (ret := (some .int)) (own := RL) rfl (by decide +kernel) rfl (Nat.le_of_ble_eq_true rfl) ?_
  intro X Y C R0 hin
  show Z l X G Y 4 0 0 0 [(0, .int (iI ((w : Int)))), (1, .ref aq)] [] [cI G aq 7 q]
  refine z_aload_n (pc := 0) C dL_parity_0 1 rfl ?_
  refine z_iconst (pc := 1) C dL_parity_1 ?_
  refine z_iald (pc := 2) C dL_parity_2 0 rfl (2) (rfl) (by omega) (by decide) ?_
  refine z_iconst (pc := 3) C dL_parity_3 ?_
  refine z_icmp_ne (tgt := 11) (pc := 4) C dL_parity_4 (by decide) ⟨by omega, by omega⟩ (by decide) (fun c4 => ?_) (fun c4 => ?_)
  · refine z_iconst (pc := 11) C dL_parity_11 ?_
    refine z_topi (y := (zpx (q 2) w 0)) (by unfold zpx zon; rw [if_neg c4]; rfl) ?_
    refine z_istore_n (lv' := [(2, .int (iI ((zpx (q 2) w 0)))), (0, .int (iI ((w : Int)))), (1, .ref aq)]) (pc := 12) C dL_parity_12 (by decide) rfl ?_
    refine z_iconst (pc := 13) C dL_parity_13 ?_
    refine z_istore_n (lv' := [(3, .int (iI 0)), (2, .int (iI ((zpx (q 2) w 0)))), (0, .int (iI ((w : Int)))), (1, .ref aq)]) (pc := 14) C dL_parity_14 (by decide) rfl ?_
    have L15 : ∀ (n : Nat) (i : Nat), 8 < i + n → i ≤ 8 → Z l X G Y 4 0 0 15 [(0, .int (iI ((w : Int)))), (1, .ref aq), (2, .int (iI ((zpx (q 2) w i)))), (3, .int (iI ((i : Int))))] [] [cI G aq 7 q] := by
      intro n
      induction n with
      | zero => intro i hn hi; exact absurd hn (by omega)
      | succ n ih =>
        intro i hn hi
        refine z_iload_n (pc := 15) C dL_parity_15 3 rfl ?_
        refine z_bipush (pc := 16) C dL_parity_16 (by decide +kernel) ?_
        refine z_icmp_ge (tgt := 35) (pc := 18) C dL_parity_18 (by decide) ⟨by omega, by omega⟩ (by decide) (fun c18 => ?_) (fun c18 => ?_)
        · obtain rfl : i = 8 := by omega
          refine z_iload_n (pc := 35) C dL_parity_35 2 rfl ?_
          refine z_topi (y := (zpar (q 2) w)) (zpx_8 _ _) ?_
          exact z_iret (pc := 36) C R0 dL_parity_36 (⟨rfl, rfl⟩)
        · refine z_iload_n (pc := 21) C dL_parity_21 2 rfl ?_
          refine z_iload_n (pc := 22) C dL_parity_22 0 rfl ?_
          refine z_iload_n (pc := 23) C dL_parity_23 3 rfl ?_
          refine z_ishr (pc := 24) C dL_parity_24 ⟨by omega, by omega⟩ ⟨by omega, by omega⟩ ?_
          refine z_topi (y := (((w / 2 ^ i) : Nat) : Int)) (by rw [Int.toNat_natCast]; exact (zdiv_pow w i).symm ▸ rfl) ?_
          refine z_iconst (pc := 25) C dL_parity_25 ?_
          have hdv : w / 2 ^ i ≤ w := Nat.div_le_self _ _
          refine z_iand (pc := 26) C dL_parity_26 ⟨Int.natCast_nonneg _, Int.le_trans (Int.ofNat_le.mpr hdv) (by omega)⟩ (by decide) ?_
          refine z_topi (y := (((w / 2 ^ i % 2) : Nat) : Int)) (by rw [zand1 (Int.natCast_nonneg _)]; exact (Int.natCast_emod _ _).symm) ?_
          refine z_ixor32 (pc := 27) C dL_parity_27 ?_
          refine z_top (y := iI (zpx (q 2) w (i + 1))) (by rw [zixor1 (zpx_b _ _ _) (by omega), zpx_s]) ?_
          refine z_istore_n (lv' := [(2, .int (iI ((zpx (q 2) w (i + 1))))), (0, .int (iI ((w : Int)))), (1, .ref aq), (3, .int (iI ((i : Int))))]) (pc := 28) C dL_parity_28 (by decide) rfl ?_
          refine z_iinc (lv' := [(3, .int (iI (((i : Int) + 1)))), (2, .int (iI ((zpx (q 2) w (i + 1))))), (0, .int (iI ((w : Int)))), (1, .ref aq)]) (pc := 29) C dL_parity_29 3 rfl (by decide) rfl ?_
          refine z_goto (tgt := 15) (pc := 32) C dL_parity_32 (by decide) ?_
          refine z_lv (lv' := [(0, .int (iI ((w : Int)))), (1, .ref aq), (2, .int (iI ((zpx (q 2) w (i + 1))))), (3, .int (iI (((i : Int) + 1))))]) [2, 3, 1, 0] rfl ?_
          exact ih (i + 1) (by omega) (by omega)
    refine z_lv (lv' := [(0, .int (iI ((w : Int)))), (1, .ref aq), (2, .int (iI ((zpx (q 2) w 0)))), (3, .int (iI 0))]) [2, 3, 1, 0] rfl ?_
    exact L15 9 0 (by omega) (by omega)
  · refine z_iconst (pc := 7) C dL_parity_7 ?_
    refine z_goto (tgt := 12) (pc := 8) C dL_parity_8 (by decide) ?_
    refine z_topi (y := (zpx (q 2) w 0)) (by unfold zpx zon; rw [if_pos c4]; rfl) ?_
    refine z_istore_n (lv' := [(2, .int (iI ((zpx (q 2) w 0)))), (0, .int (iI ((w : Int)))), (1, .ref aq)]) (pc := 12) C dL_parity_12 (by decide) rfl ?_
    refine z_iconst (pc := 13) C dL_parity_13 ?_
    refine z_istore_n (lv' := [(3, .int (iI 0)), (2, .int (iI ((zpx (q 2) w 0)))), (0, .int (iI ((w : Int)))), (1, .ref aq)]) (pc := 14) C dL_parity_14 (by decide) rfl ?_
    have L15 : ∀ (n : Nat) (i : Nat), 8 < i + n → i ≤ 8 → Z l X G Y 4 0 0 15 [(0, .int (iI ((w : Int)))), (1, .ref aq), (2, .int (iI ((zpx (q 2) w i)))), (3, .int (iI ((i : Int))))] [] [cI G aq 7 q] := by
      intro n
      induction n with
      | zero => intro i hn hi; exact absurd hn (by omega)
      | succ n ih =>
        intro i hn hi
        refine z_iload_n (pc := 15) C dL_parity_15 3 rfl ?_
        refine z_bipush (pc := 16) C dL_parity_16 (by decide +kernel) ?_
        refine z_icmp_ge (tgt := 35) (pc := 18) C dL_parity_18 (by decide) ⟨by omega, by omega⟩ (by decide) (fun c18 => ?_) (fun c18 => ?_)
        · obtain rfl : i = 8 := by omega
          refine z_iload_n (pc := 35) C dL_parity_35 2 rfl ?_
          refine z_topi (y := (zpar (q 2) w)) (zpx_8 _ _) ?_
          exact z_iret (pc := 36) C R0 dL_parity_36 (⟨rfl, rfl⟩)
        · refine z_iload_n (pc := 21) C dL_parity_21 2 rfl ?_
          refine z_iload_n (pc := 22) C dL_parity_22 0 rfl ?_
          refine z_iload_n (pc := 23) C dL_parity_23 3 rfl ?_
          refine z_ishr (pc := 24) C dL_parity_24 ⟨by omega, by omega⟩ ⟨by omega, by omega⟩ ?_
          refine z_topi (y := (((w / 2 ^ i) : Nat) : Int)) (by rw [Int.toNat_natCast]; exact (zdiv_pow w i).symm ▸ rfl) ?_
          refine z_iconst (pc := 25) C dL_parity_25 ?_
          have hdv : w / 2 ^ i ≤ w := Nat.div_le_self _ _
          refine z_iand (pc := 26) C dL_parity_26 ⟨Int.natCast_nonneg _, Int.le_trans (Int.ofNat_le.mpr hdv) (by omega)⟩ (by decide) ?_
          refine z_topi (y := (((w / 2 ^ i % 2) : Nat) : Int)) (by rw [zand1 (Int.natCast_nonneg _)]; exact (Int.natCast_emod _ _).symm) ?_
          refine z_ixor32 (pc := 27) C dL_parity_27 ?_
          refine z_top (y := iI (zpx (q 2) w (i + 1))) (by rw [zixor1 (zpx_b _ _ _) (by omega), zpx_s]) ?_
          refine z_istore_n (lv' := [(2, .int (iI ((zpx (q 2) w (i + 1))))), (0, .int (iI ((w : Int)))), (1, .ref aq), (3, .int (iI ((i : Int))))]) (pc := 28) C dL_parity_28 (by decide) rfl ?_
          refine z_iinc (lv' := [(3, .int (iI (((i : Int) + 1)))), (2, .int (iI ((zpx (q 2) w (i + 1))))), (0, .int (iI ((w : Int)))), (1, .ref aq)]) (pc := 29) C dL_parity_29 3 rfl (by decide) rfl ?_
          refine z_goto (tgt := 15) (pc := 32) C dL_parity_32 (by decide) ?_
          refine z_lv (lv' := [(0, .int (iI ((w : Int)))), (1, .ref aq), (2, .int (iI ((zpx (q 2) w (i + 1))))), (3, .int (iI (((i : Int) + 1))))]) [2, 3, 1, 0] rfl ?_
          exact ih (i + 1) (by omega) (by omega)
    refine z_lv (lv' := [(0, .int (iI ((w : Int)))), (1, .ref aq), (2, .int (iI ((zpx (q 2) w 0)))), (3, .int (iI 0))]) [2, 3, 1, 0] rfl ?_
    exact L15 9 0 (by omega) (by omega)

theorem nyL_puts : yL_puts.cls ≠ "java/lang/invoke/MethodHandle" ∧ yL_puts.cls ≠ "java/lang/invoke/VarHandle" ∧ (parseMethodDescriptor yL_puts.desc).map (fun d => d.parameters.length) = some 3 := by decide +kernel
set_option maxHeartbeats 4000000 in
set_option maxRecDepth 100000 in
theorem k_L_runs (l : Launch) (G : ZG) (aq al : Nat) (q : Nat → Int) (c : Nat → Bool) (v : Int) (m : Nat) (e : Nat) (hv : 0 ≤ v ∧ v ≤ 1) (h5 : q 5 = (e : Int)) (hm : e + m ≤ 1500) : Kt l G yL_runs wsL_runs { frames := 1, cells := 0, slots := 0, locals := 22 } 0 0 False [.int (iI v), .int (iI ((m : Int))), .ref aq, .ref al] [cI G aq 7 q, cI G al 51 (zlr c)] (fun v9 w9 => v9 = some (.int (iI ((((e + m) : Nat) : Int)))) ∧ w9 = [cI G aq 7 (zU q 5 ((e + m : Nat) : Int)), cI G al 51 (zlr (zst0 c e m (decide ((v : Int) = 1))))]) := by
  refine Kt.of (cc := cL_runs) (nL := 5) (ret := (some .int)) (own := RL) rfl (by decide +kernel) rfl (Nat.le_of_ble_eq_true rfl) ?_
  intro X Y C R0 hin
  show Z l X G Y 5 0 0 0 [(0, .int (iI v)), (1, .int (iI ((m : Int)))), (2, .ref aq), (3, .ref al)] [] [cI G aq 7 q, cI G al 51 (zlr c)]
  refine z_iconst (pc := 0) C dL_runs_0 ?_
  refine z_istore (lv' := [(4, .int (iI 0)), (0, .int (iI v)), (1, .int (iI ((m : Int)))), (2, .ref aq), (3, .ref al)]) (pc := 1) C dL_runs_1 (by decide) rfl ?_
  have L3 : ∀ (n : Nat) (i : Nat), m < i + n → i ≤ m → Z l X G Y 5 0 0 3 [(0, .int (iI v)), (1, .int (iI ((m : Int)))), (2, .ref aq), (3, .ref al), (4, .int (iI ((i : Int))))] [] [cI G aq 7 q, cI G al 51 (zlr (zst0 c e i (decide (v = 1))))] := by
    intro n
    induction n with
    | zero => intro i hn hi; exact absurd hn (by omega)
    | succ n ih =>
      intro i hn hi
      refine z_iload (pc := 3) C dL_runs_3 4 rfl ?_
      refine z_iload_n (pc := 5) C dL_runs_5 1 rfl ?_
      refine z_icmp_ge (tgt := 26) (pc := 6) C dL_runs_6 (by decide) ⟨by omega, by omega⟩ ⟨by omega, by omega⟩ (fun c6 => ?_) (fun c6 => ?_)
      · obtain rfl : m = i := by omega
        refine z_aload_n (pc := 26) C dL_runs_26 2 rfl ?_
        refine z_iconst (pc := 27) C dL_runs_27 ?_
        refine z_dup2 (pc := 28) C dL_runs_28 rfl rfl ?_
        refine z_iald (pc := 29) C dL_runs_29 0 rfl (5) (rfl) (by omega) (by decide) ?_
        refine z_iload_n (pc := 30) C dL_runs_30 1 rfl ?_
        refine z_iadd (pc := 31) C dL_runs_31 ?_
        refine z_topi (y := (((e + m) : Nat) : Int)) (by omega) ?_
        refine z_iast (ws' := [cI G aq 7 (zU q 5 (((e + m) : Nat) : Int)), cI G al 51 (zlr (zst0 c e m (decide (v = 1))))]) (pc := 32) C dL_runs_32 0 rfl (5) (rfl) (by omega) (by decide) rfl ?_
        refine z_aload_n (pc := 33) C dL_runs_33 2 rfl ?_
        refine z_iconst (pc := 34) C dL_runs_34 ?_
        refine z_iald (pc := 35) C dL_runs_35 0 rfl (5) (rfl) (by omega) (by decide) ?_
        refine z_topi (y := (((e + m) : Nat) : Int)) (zU_s) ?_
        exact z_iret (pc := 36) C R0 dL_runs_36 (⟨rfl, rfl⟩)
      · refine z_aload_n (pc := 9) C dL_runs_9 2 rfl ?_
        refine z_iconst (pc := 10) C dL_runs_10 ?_
        refine z_iald (pc := 11) C dL_runs_11 0 rfl (5) (rfl) (by omega) (by decide) ?_
        refine z_iload (pc := 12) C dL_runs_12 4 rfl ?_
        refine z_iadd (pc := 14) C dL_runs_14 ?_
        refine z_topi (y := (((e + i) : Nat) : Int)) (by omega) ?_
        refine z_iload_n (pc := 15) C dL_runs_15 0 rfl ?_
        refine z_aload_n (pc := 16) C dL_runs_16 3 rfl ?_
        refine z_callS (As := [.int (iI ((((e + i) : Nat) : Int))), .int (iI v), .ref al]) (rest := []) (wc := [cI G al 51 (zlr (zst0 c e i (decide (v = 1))))]) (wr := [cI G aq 7 q]) (pc := 17) C dL_runs_17 (k_L_puts l G al (zst0 c e i (decide (v = 1))) (e + i) v (by omega) hv) gL_runs_L_puts ⟨⟨_, rfl⟩, ⟨rfl, rfl⟩, nyL_puts, ⟨Nat.le_of_ble_eq_true rfl, Nat.le_of_ble_eq_true rfl⟩⟩ (fun h => h) rfl (Nat.le_of_ble_eq_true rfl) [1] [0] rfl rfl (by decide) (by decide) (by decide) ⟨Nat.le_of_ble_eq_true rfl, Nat.le_of_ble_eq_true rfl⟩ (fun v w hk => ?_)
        obtain ⟨rfl, rfl⟩ := hk
        refine z_fix (pc2 := 20) (st2 := []) (ws' := [cI G aq 7 q, cI G al 51 (zlr (zbU (zst0 c e i (decide (v = 1))) (e + i) (decide ((v : Int) = 1))))]) [0, 1] rfl rfl rfl (by decide) ?_
        refine z_iinc (lv' := [(4, .int (iI (((i : Int) + 1)))), (0, .int (iI v)), (1, .int (iI ((m : Int)))), (2, .ref aq), (3, .ref al)]) (pc := 20) C dL_runs_20 4 rfl (by decide) rfl ?_
        refine z_goto (tgt := 3) (pc := 23) C dL_runs_23 (by decide) ?_
        refine z_lv (lv' := [(0, .int (iI v)), (1, .int (iI ((m : Int)))), (2, .ref aq), (3, .ref al), (4, .int (iI (((i : Int) + 1))))]) [1, 2, 3, 4, 0] rfl ?_
        refine z_ws (ws' := [cI G aq 7 q, cI G al 51 (zlr (zst0 c e (i + 1) (decide (v = 1))))]) [0, 1] (by rw [← zst0_s]; rfl) (by decide) ?_
        exact ih (i + 1) (by omega) (by omega)
  refine z_lv (lv' := [(0, .int (iI v)), (1, .int (iI ((m : Int)))), (2, .ref aq), (3, .ref al), (4, .int (iI 0))]) [1, 2, 3, 4, 0] rfl ?_
  refine z_ws (ws' := [cI G aq 7 q, cI G al 51 (zlr (zst0 c e 0 (decide (v = 1))))]) [0, 1] (by rw [zst0_0]; rfl) (by decide) ?_
  exact L3 (m + 1) 0 (by omega) (by omega)

set_option maxHeartbeats 4000000 in
set_option maxRecDepth 100000 in
theorem k_L_bitMany (l : Launch) (G : ZG) (aq : Nat) (q : Nat → Int) (hq2 : 0 ≤ q 2 ∧ q 2 ≤ 2) (hq3 : 1 ≤ q 3 ∧ q 3 ≤ 2) : Kt l G yL_bitMany wsL_bitMany { frames := 0, cells := 0, slots := 0, locals := 0 } 0 0 False [.ref aq] [cI G aq 7 q] (fun v9 w9 => v9 = some (.int (iI ((zbn q)))) ∧ w9 = [cI G aq 7 q]) := by
  refine Kt.of (cc := cL_bitMany) (nL := 1) (ret := (some .int)) (own := RL) rfl (by decide +kernel) rfl (Nat.le_of_ble_eq_true rfl) ?_
  intro X Y C R0 hin
  show Z l X G Y 1 0 0 0 [(0, .ref aq)] [] [cI G aq 7 q]
  refine z_bipush (pc := 0) C dL_bitMany_0 (by decide +kernel) ?_
  refine z_aload_n (pc := 2) C dL_bitMany_2 0 rfl ?_
  refine z_iconst (pc := 3) C dL_bitMany_3 ?_
  refine z_iald (pc := 4) C dL_bitMany_4 0 rfl (3) (rfl) (by omega) (by decide) ?_
  refine z_iadd (pc := 5) C dL_bitMany_5 ?_
  refine z_aload_n (pc := 6) C dL_bitMany_6 0 rfl ?_
  refine z_iconst (pc := 7) C dL_bitMany_7 ?_
  refine z_iald (pc := 8) C dL_bitMany_8 0 rfl (2) (rfl) (by omega) (by decide) ?_
  refine z_if_le (tgt := 16) (pc := 9) C dL_bitMany_9 (by decide) ⟨by omega, by omega⟩ (fun c9 => ?_) (fun c9 => ?_)
  · refine z_iconst (pc := 16) C dL_bitMany_16 ?_
    refine z_iadd (pc := 17) C dL_bitMany_17 ?_
    refine z_topi (y := (zbn q)) (by unfold zbn; rw [if_pos (by omega)]; omega) ?_
    exact z_iret (pc := 18) C R0 dL_bitMany_18 (⟨rfl, rfl⟩)
  · refine z_iconst (pc := 12) C dL_bitMany_12 ?_
    refine z_goto (tgt := 17) (pc := 13) C dL_bitMany_13 (by decide) ?_
    refine z_iadd (pc := 17) C dL_bitMany_17 ?_
    refine z_topi (y := (zbn q)) (by unfold zbn; rw [if_neg (by omega)]; omega) ?_
    exact z_iret (pc := 18) C R0 dL_bitMany_18 (⟨rfl, rfl⟩)
