/-! THE TEXT, walked -/
set_option maxHeartbeats 4000000 in
set_option maxRecDepth 100000 in
theorem k_X3_isBetween (l : Launch) (G : ZG) (c a b : Int) (hc : 0 ≤ c ∧ c < 65536) (ha : 0 ≤ a ∧ a < 65536) (hb : 0 ≤ b ∧ b < 65536) : Kt l G yX3_isBetween wsX3_isBetween { frames := 0, cells := 0, slots := 0, locals := 0 } 0 0 False [.int (iI c), .int (iI a), .int (iI b)] [] (fun v9 w9 => ∃ (r : Int), ((r = 1 ∧ a ≤ c ∧ c ≤ b) ∨ (r = 0 ∧ ¬ (a ≤ c ∧ c ≤ b))) ∧ v9 = some (.int (iI r)) ∧ w9 = []) := by
  refine Kt.of (cc := cX3_isBetween) (nL := 3) (ret := (some .boolean)) (own := RX3) rfl (by decide +kernel) rfl (Nat.le_of_ble_eq_true rfl) ?_
  intro X Y C R0 hin
  show Z l X G Y 3 0 0 0 [(0, .int (iI c)), (1, .int (iI a)), (2, .int (iI b))] [] []
  refine z_iload_n (pc := 0) C dX3_isBetween_0 0 rfl ?_
  refine z_iload_n (pc := 1) C dX3_isBetween_1 1 rfl ?_
  refine z_icmp_lt (tgt := 14) (pc := 2) C dX3_isBetween_2 (by decide) ⟨by omega, by omega⟩ ⟨by omega, by omega⟩ (fun c2 => ?_) (fun c2 => ?_)
  · refine z_iconst (pc := 14) C dX3_isBetween_14 ?_
    exact z_zret (pc := 15) C R0 (by decide) dX3_isBetween_15 (⟨0, Or.inr ⟨rfl, by omega⟩, rfl, rfl⟩)
  · refine z_iload_n (pc := 5) C dX3_isBetween_5 0 rfl ?_
    refine z_iload_n (pc := 6) C dX3_isBetween_6 2 rfl ?_
    refine z_icmp_gt (tgt := 14) (pc := 7) C dX3_isBetween_7 (by decide) ⟨by omega, by omega⟩ ⟨by omega, by omega⟩ (fun c7 => ?_) (fun c7 => ?_)
    · refine z_iconst (pc := 14) C dX3_isBetween_14 ?_
      exact z_zret (pc := 15) C R0 (by decide) dX3_isBetween_15 (⟨0, Or.inr ⟨rfl, by omega⟩, rfl, rfl⟩)
    · refine z_iconst (pc := 10) C dX3_isBetween_10 ?_
      refine z_goto (tgt := 15) (pc := 11) C dX3_isBetween_11 (by decide) ?_
      exact z_zret (pc := 15) C R0 (by decide) dX3_isBetween_15 (⟨1, Or.inl ⟨rfl, by omega⟩, rfl, rfl⟩)

set_option maxHeartbeats 4000000 in
set_option maxRecDepth 100000 in
theorem k_X3_isStretch (l : Launch) (G : ZG) (c : Int) (hc : 0 ≤ c ∧ c < 65536) : Kt l G yX3_isStretch wsX3_isStretch { frames := 0, cells := 0, slots := 0, locals := 0 } 0 0 False [.int (iI c)] [] (fun v9 w9 => ∃ (r : Int), ((r = 1 ∧ (c = 46 ∨ c = 95)) ∨ (r = 0 ∧ ¬ (c = 46 ∨ c = 95))) ∧ v9 = some (.int (iI r)) ∧ w9 = []) := by
  refine Kt.of (cc := cX3_isStretch) (nL := 1) (ret := (some .boolean)) (own := RX3) rfl (by decide +kernel) rfl (Nat.le_of_ble_eq_true rfl) ?_
  intro X Y C R0 hin
  show Z l X G Y 1 0 0 0 [(0, .int (iI c))] [] []
  refine z_iload_n (pc := 0) C dX3_isStretch_0 0 rfl ?_
  refine z_bipush (pc := 1) C dX3_isStretch_1 (by decide +kernel) ?_
  refine z_icmp_eq (tgt := 12) (pc := 3) C dX3_isStretch_3 (by decide) ⟨by omega, by omega⟩ (by decide) (fun c3 => ?_) (fun c3 => ?_)
  · refine z_iconst (pc := 12) C dX3_isStretch_12 ?_
    refine z_goto (tgt := 17) (pc := 13) C dX3_isStretch_13 (by decide) ?_
    exact z_zret (pc := 17) C R0 (by decide) dX3_isStretch_17 (⟨1, Or.inl ⟨rfl, by omega⟩, rfl, rfl⟩)
  · refine z_iload_n (pc := 6) C dX3_isStretch_6 0 rfl ?_
    refine z_bipush (pc := 7) C dX3_isStretch_7 (by decide +kernel) ?_
    refine z_icmp_ne (tgt := 16) (pc := 9) C dX3_isStretch_9 (by decide) ⟨by omega, by omega⟩ (by decide) (fun c9 => ?_) (fun c9 => ?_)
    · refine z_iconst (pc := 16) C dX3_isStretch_16 ?_
      exact z_zret (pc := 17) C R0 (by decide) dX3_isStretch_17 (⟨0, Or.inr ⟨rfl, by omega⟩, rfl, rfl⟩)
    · refine z_iconst (pc := 12) C dX3_isStretch_12 ?_
      refine z_goto (tgt := 17) (pc := 13) C dX3_isStretch_13 (by decide) ?_
      exact z_zret (pc := 17) C R0 (by decide) dX3_isStretch_17 (⟨1, Or.inl ⟨rfl, by omega⟩, rfl, rfl⟩)

theorem nyX3_isBetween : yX3_isBetween.cls ≠ "java/lang/invoke/MethodHandle" ∧ yX3_isBetween.cls ≠ "java/lang/invoke/VarHandle" ∧ (parseMethodDescriptor yX3_isBetween.desc).map (fun d => d.parameters.length) = some 3 := by decide +kernel
set_option maxHeartbeats 4000000 in
set_option maxRecDepth 100000 in
theorem k_X3_digit (l : Launch) (G : ZG) (c : Int) (hc : 0 ≤ c ∧ c < 65536) : Kt l G yX3_digit wsX3_digit { frames := 1, cells := 0, slots := 0, locals := 22 } 0 0 False [.int (iI c)] [] (fun v9 w9 => v9 = some (.int (iI ((zdg c)))) ∧ w9 = []) := by
  refine Kt.of (cc := cX3_digit) (nL := 1) (ret := (some .int)) (own := RX3) rfl (by decide +kernel) rfl (Nat.le_of_ble_eq_true rfl) ?_
  intro X Y C R0 hin
  show Z l X G Y 1 0 0 0 [(0, .int (iI c))] [] []
  refine z_iload_n (pc := 0) C dX3_digit_0 0 rfl ?_
  refine z_bipush (pc := 1) C dX3_digit_1 (by decide +kernel) ?_
  refine z_bipush (pc := 3) C dX3_digit_3 (by decide +kernel) ?_
  refine z_callS (As := [.int (iI c), .int (iI 48), .int (iI 57)]) (rest := []) (wc := []) (wr := []) (pc := 5) C dX3_digit_5 (k_X3_isBetween l G c 48 57 hc (by decide) (by decide)) gX3_digit_X3_isBetween ⟨⟨_, rfl⟩, ⟨rfl, rfl⟩, nyX3_isBetween, ⟨Nat.le_of_ble_eq_true rfl, Nat.le_of_ble_eq_true rfl⟩⟩ (fun h => h) rfl (Nat.le_of_ble_eq_true rfl) [] [] rfl rfl (by decide) (by decide) (by decide) ⟨Nat.le_of_ble_eq_true rfl, Nat.le_of_ble_eq_true rfl⟩ (fun v w hk => ?_)
  obtain ⟨r_5, h5_0, rfl, rfl⟩ := hk
  refine z_fix (pc2 := 8) (st2 := [.int (iI r_5)]) (ws' := []) [] rfl rfl rfl (by decide) ?_
  refine z_if_eq (tgt := 16) (pc := 8) C dX3_digit_8 (by decide) ⟨by omega, by omega⟩ (fun c8 => ?_) (fun c8 => ?_)
  · refine z_iload_n (pc := 16) C dX3_digit_16 0 rfl ?_
    refine z_bipush (pc := 17) C dX3_digit_17 (by decide +kernel) ?_
    refine z_bipush (pc := 19) C dX3_digit_19 (by decide +kernel) ?_
    refine z_callS (As := [.int (iI c), .int (iI 97), .int (iI 102)]) (rest := []) (wc := []) (wr := []) (pc := 21) C dX3_digit_21 (k_X3_isBetween l G c 97 102 hc (by decide) (by decide)) gX3_digit_X3_isBetween ⟨⟨_, rfl⟩, ⟨rfl, rfl⟩, nyX3_isBetween, ⟨Nat.le_of_ble_eq_true rfl, Nat.le_of_ble_eq_true rfl⟩⟩ (fun h => h) rfl (Nat.le_of_ble_eq_true rfl) [] [] rfl rfl (by decide) (by decide) (by decide) ⟨Nat.le_of_ble_eq_true rfl, Nat.le_of_ble_eq_true rfl⟩ (fun v w hk => ?_)
    obtain ⟨r_21, h21_0, rfl, rfl⟩ := hk
    refine z_fix (pc2 := 24) (st2 := [.int (iI r_21)]) (ws' := []) [] rfl rfl rfl (by decide) ?_
    refine z_if_eq (tgt := 37) (pc := 24) C dX3_digit_24 (by decide) ⟨by omega, by omega⟩ (fun c24 => ?_) (fun c24 => ?_)
    · refine z_bipush (pc := 37) C dX3_digit_37 (by decide +kernel) ?_
      refine z_topi (y := (zdg c)) (by unfold zdg; rw [if_neg (by omega), if_neg (by omega)]) ?_
      exact z_iret (pc := 39) C R0 dX3_digit_39 (⟨rfl, rfl⟩)
    · refine z_iload_n (pc := 27) C dX3_digit_27 0 rfl ?_
      refine z_bipush (pc := 28) C dX3_digit_28 (by decide +kernel) ?_
      refine z_isub (pc := 30) C dX3_digit_30 ?_
      refine z_bipush (pc := 31) C dX3_digit_31 (by decide +kernel) ?_
      refine z_iadd (pc := 33) C dX3_digit_33 ?_
      refine z_goto (tgt := 39) (pc := 34) C dX3_digit_34 (by decide) ?_
      refine z_topi (y := (zdg c)) (by unfold zdg; rw [if_neg (by omega), if_pos (by omega)]) ?_
      exact z_iret (pc := 39) C R0 dX3_digit_39 (⟨rfl, rfl⟩)
  · refine z_iload_n (pc := 11) C dX3_digit_11 0 rfl ?_
    refine z_bipush (pc := 12) C dX3_digit_12 (by decide +kernel) ?_
    refine z_isub (pc := 14) C dX3_digit_14 ?_
    refine z_topi (y := (zdg c)) (by unfold zdg; rw [if_pos (by omega)]) ?_
    exact z_iret (pc := 15) C R0 dX3_digit_15 (⟨rfl, rfl⟩)

theorem nyX3_digit : yX3_digit.cls ≠ "java/lang/invoke/MethodHandle" ∧ yX3_digit.cls ≠ "java/lang/invoke/VarHandle" ∧ (parseMethodDescriptor yX3_digit.desc).map (fun d => d.parameters.length) = some 1 := by decide +kernel
set_option maxHeartbeats 4000000 in
set_option maxRecDepth 100000 in
theorem k_X3_placeBehindDigit (l : Launch) (G : ZG) (c : Int) (hc : 0 ≤ c ∧ c < 65536) : Kt l G yX3_placeBehindDigit wsX3_placeBehindDigit { frames := 2, cells := 0, slots := 0, locals := 42 } 0 0 False [.int (iI c)] [] (fun v9 w9 => v9 = some (.int (iI ((zpd c)))) ∧ w9 = []) := by
  refine Kt.of (cc := cX3_placeBehindDigit) (nL := 1) (ret := (some .int)) (own := RX3) rfl (by decide +kernel) rfl (Nat.le_of_ble_eq_true rfl) ?_
  intro X Y C R0 hin
  show Z l X G Y 1 0 0 0 [(0, .int (iI c))] [] []
  refine z_iload_n (pc := 0) C dX3_placeBehindDigit_0 0 rfl ?_
  refine z_callS (As := [.int (iI c)]) (rest := []) (wc := []) (wr := []) (pc := 1) C dX3_placeBehindDigit_1 (k_X3_digit l G c hc) gX3_placeBehindDigit_X3_digit ⟨⟨_, rfl⟩, ⟨rfl, rfl⟩, nyX3_digit, ⟨Nat.le_of_ble_eq_true rfl, Nat.le_of_ble_eq_true rfl⟩⟩ (fun h => h) rfl (Nat.le_of_ble_eq_true rfl) [] [] rfl rfl (by decide) (by decide) (by decide) ⟨Nat.le_of_ble_eq_true rfl, Nat.le_of_ble_eq_true rfl⟩ (fun v w hk => ?_)
  obtain ⟨rfl, rfl⟩ := hk
  refine z_fix (pc2 := 4) (st2 := [.int (iI ((zdg c)))]) (ws' := []) [] rfl rfl rfl (by decide) ?_
  have hdb := zdg_b c
  refine z_bipush (pc := 4) C dX3_placeBehindDigit_4 (by decide +kernel) ?_
  refine z_icmp_ne (tgt := 14) (pc := 6) C dX3_placeBehindDigit_6 (by decide) ⟨by omega, by omega⟩ (by decide) (fun c6 => ?_) (fun c6 => ?_)
  · refine z_iconst (pc := 14) C dX3_placeBehindDigit_14 ?_
    refine z_topi (y := (zpd c)) (by unfold zpd; rw [if_neg c6]) ?_
    exact z_iret (pc := 15) C R0 dX3_placeBehindDigit_15 (⟨rfl, rfl⟩)
  · refine z_bipush (pc := 9) C dX3_placeBehindDigit_9 (by decide +kernel) ?_
    refine z_goto (tgt := 15) (pc := 11) C dX3_placeBehindDigit_11 (by decide) ?_
    refine z_topi (y := (zpd c)) (by unfold zpd; rw [if_pos c6]) ?_
    exact z_iret (pc := 15) C R0 dX3_placeBehindDigit_15 (⟨rfl, rfl⟩)

theorem nyX3_isStretch : yX3_isStretch.cls ≠ "java/lang/invoke/MethodHandle" ∧ yX3_isStretch.cls ≠ "java/lang/invoke/VarHandle" ∧ (parseMethodDescriptor yX3_isStretch.desc).map (fun d => d.parameters.length) = some 1 := by decide +kernel
set_option maxHeartbeats 4000000 in
set_option maxRecDepth 100000 in
theorem k_X3_placeInItem (l : Launch) (G : ZG) (c : Int) (hc : 0 ≤ c ∧ c < 65536) : Kt l G yX3_placeInItem wsX3_placeInItem { frames := 2, cells := 0, slots := 0, locals := 42 } 0 0 False [.int (iI c)] [] (fun v9 w9 => v9 = some (.int (iI ((zpi c)))) ∧ w9 = []) := by
  refine Kt.of (cc := cX3_placeInItem) (nL := 1) (ret := (some .int)) (own := RX3) rfl (by decide +kernel) rfl (Nat.le_of_ble_eq_true rfl) ?_
  intro X Y C R0 hin
  show Z l X G Y 1 0 0 0 [(0, .int (iI c))] [] []
  refine z_iload_n (pc := 0) C dX3_placeInItem_0 0 rfl ?_
  refine z_callS (As := [.int (iI c)]) (rest := []) (wc := []) (wr := []) (pc := 1) C dX3_placeInItem_1 (k_X3_isStretch l G c hc) gX3_placeInItem_X3_isStretch ⟨⟨_, rfl⟩, ⟨rfl, rfl⟩, nyX3_isStretch, ⟨Nat.le_of_ble_eq_true rfl, Nat.le_of_ble_eq_true rfl⟩⟩ (fun h => h) rfl (Nat.le_of_ble_eq_true rfl) [] [] rfl rfl (by decide) (by decide) (by decide) ⟨Nat.le_of_ble_eq_true rfl, Nat.le_of_ble_eq_true rfl⟩ (fun v w hk => ?_)
  obtain ⟨r_1, h1_0, rfl, rfl⟩ := hk
  refine z_fix (pc2 := 4) (st2 := [.int (iI r_1)]) (ws' := []) [] rfl rfl rfl (by decide) ?_
  refine z_if_eq (tgt := 9) (pc := 4) C dX3_placeInItem_4 (by decide) ⟨by omega, by omega⟩ (fun c4 => ?_) (fun c4 => ?_)
  · refine z_iload_n (pc := 9) C dX3_placeInItem_9 0 rfl ?_
    refine z_bipush (pc := 10) C dX3_placeInItem_10 (by decide +kernel) ?_
    refine z_bipush (pc := 12) C dX3_placeInItem_12 (by decide +kernel) ?_
    refine z_callS (As := [.int (iI c), .int (iI 50), .int (iI 57)]) (rest := []) (wc := []) (wr := []) (pc := 14) C dX3_placeInItem_14 (k_X3_isBetween l G c 50 57 hc (by decide) (by decide)) gX3_placeInItem_X3_isBetween ⟨⟨_, rfl⟩, ⟨rfl, rfl⟩, nyX3_isBetween, ⟨Nat.le_of_ble_eq_true rfl, Nat.le_of_ble_eq_true rfl⟩⟩ (fun h => h) rfl (Nat.le_of_ble_eq_true rfl) [] [] rfl rfl (by decide) (by decide) (by decide) ⟨Nat.le_of_ble_eq_true rfl, Nat.le_of_ble_eq_true rfl⟩ (fun v w hk => ?_)
    obtain ⟨r_14, h14_0, rfl, rfl⟩ := hk
    refine z_fix (pc2 := 17) (st2 := [.int (iI r_14)]) (ws' := []) [] rfl rfl rfl (by decide) ?_
    refine z_if_eq (tgt := 22) (pc := 17) C dX3_placeInItem_17 (by decide) ⟨by omega, by omega⟩ (fun c17 => ?_) (fun c17 => ?_)
    · refine z_iload_n (pc := 22) C dX3_placeInItem_22 0 rfl ?_
      refine z_callS (As := [.int (iI c)]) (rest := []) (wc := []) (wr := []) (pc := 23) C dX3_placeInItem_23 (k_X3_digit l G c hc) gX3_placeInItem_X3_digit ⟨⟨_, rfl⟩, ⟨rfl, rfl⟩, nyX3_digit, ⟨Nat.le_of_ble_eq_true rfl, Nat.le_of_ble_eq_true rfl⟩⟩ (fun h => h) rfl (Nat.le_of_ble_eq_true rfl) [] [] rfl rfl (by decide) (by decide) (by decide) ⟨Nat.le_of_ble_eq_true rfl, Nat.le_of_ble_eq_true rfl⟩ (fun v w hk => ?_)
      obtain ⟨rfl, rfl⟩ := hk
      refine z_fix (pc2 := 26) (st2 := [.int (iI ((zdg c)))]) (ws' := []) [] rfl rfl rfl (by decide) ?_
      have hdb := zdg_b c
      refine z_bipush (pc := 26) C dX3_placeInItem_26 (by decide +kernel) ?_
      refine z_icmp_ne (tgt := 36) (pc := 28) C dX3_placeInItem_28 (by decide) ⟨by omega, by omega⟩ (by decide) (fun c28 => ?_) (fun c28 => ?_)
      · refine z_iconst (pc := 36) C dX3_placeInItem_36 ?_
        refine z_topi (y := (zpi c)) (by unfold zpi; rw [if_neg (by omega), if_neg (by omega), if_neg c28]) ?_
        exact z_iret (pc := 37) C R0 dX3_placeInItem_37 (⟨rfl, rfl⟩)
      · refine z_bipush (pc := 31) C dX3_placeInItem_31 (by decide +kernel) ?_
        refine z_goto (tgt := 37) (pc := 33) C dX3_placeInItem_33 (by decide) ?_
        refine z_topi (y := (zpi c)) (by unfold zpi; rw [if_neg (by omega), if_neg (by omega), if_pos c28]) ?_
        exact z_iret (pc := 37) C R0 dX3_placeInItem_37 (⟨rfl, rfl⟩)
    · refine z_iconst (pc := 20) C dX3_placeInItem_20 ?_
      refine z_topi (y := (zpi c)) (by unfold zpi; rw [if_neg (by omega), if_pos (by omega)]) ?_
      exact z_iret (pc := 21) C R0 dX3_placeInItem_21 (⟨rfl, rfl⟩)
  · refine z_iconst (pc := 7) C dX3_placeInItem_7 ?_
    refine z_topi (y := (zpi c)) (by unfold zpi; rw [if_pos (by omega)]) ?_
    exact z_iret (pc := 8) C R0 dX3_placeInItem_8 (⟨rfl, rfl⟩)

set_option maxHeartbeats 4000000 in
set_option maxRecDepth 100000 in
theorem k_X3_placeBehindItem (l : Launch) (G : ZG) (c d : Int) (hc : 0 ≤ c ∧ c < 65536) (hd : iR d) : Kt l G yX3_placeBehindItem wsX3_placeBehindItem { frames := 0, cells := 0, slots := 0, locals := 0 } 0 0 False [.int (iI c), .int (iI d)] [] (fun v9 w9 => v9 = some (.int (iI ((zpb c d)))) ∧ w9 = []) := by
  refine Kt.of (cc := cX3_placeBehindItem) (nL := 2) (ret := (some .int)) (own := RX3) rfl (by decide +kernel) rfl (Nat.le_of_ble_eq_true rfl) ?_
  intro X Y C R0 hin
  show Z l X G Y 2 0 0 0 [(0, .int (iI c)), (1, .int (iI d))] [] []
  refine z_iload_n (pc := 0) C dX3_placeBehindItem_0 0 rfl ?_
  refine z_bipush (pc := 1) C dX3_placeBehindItem_1 (by decide +kernel) ?_
  refine z_icmp_ne (tgt := 8) (pc := 3) C dX3_placeBehindItem_3 (by decide) ⟨by omega, by omega⟩ (by decide) (fun c3 => ?_) (fun c3 => ?_)
  · refine z_iload_n (pc := 8) C dX3_placeBehindItem_8 0 rfl ?_
    refine z_bipush (pc := 9) C dX3_placeBehindItem_9 (by decide +kernel) ?_
    refine z_icmp_ne (tgt := 22) (pc := 11) C dX3_placeBehindItem_11 (by decide) ⟨by omega, by omega⟩ (by decide) (fun c11 => ?_) (fun c11 => ?_)
    · refine z_bipush (pc := 22) C dX3_placeBehindItem_22 (by decide +kernel) ?_
      refine z_topi (y := (zpb c d)) (by unfold zpb; rw [if_neg (by omega), if_neg (by omega)]) ?_
      exact z_iret (pc := 24) C R0 dX3_placeBehindItem_24 (⟨rfl, rfl⟩)
    · refine z_iload_n (pc := 14) C dX3_placeBehindItem_14 1 rfl ?_
      refine z_if_le (tgt := 22) (pc := 15) C dX3_placeBehindItem_15 (by decide) ⟨by omega, by omega⟩ (fun c15 => ?_) (fun c15 => ?_)
      · refine z_bipush (pc := 22) C dX3_placeBehindItem_22 (by decide +kernel) ?_
        refine z_topi (y := (zpb c d)) (by unfold zpb; rw [if_neg (by omega), if_neg (by omega)]) ?_
        exact z_iret (pc := 24) C R0 dX3_placeBehindItem_24 (⟨rfl, rfl⟩)
      · refine z_iconst (pc := 18) C dX3_placeBehindItem_18 ?_
        refine z_goto (tgt := 24) (pc := 19) C dX3_placeBehindItem_19 (by decide) ?_
        refine z_topi (y := (zpb c d)) (by unfold zpb; rw [if_neg (by omega), if_pos (by omega)]) ?_
        exact z_iret (pc := 24) C R0 dX3_placeBehindItem_24 (⟨rfl, rfl⟩)
  · refine z_iconst (pc := 6) C dX3_placeBehindItem_6 ?_
    refine z_topi (y := (zpb c d)) (by unfold zpb; rw [if_pos (by omega)]) ?_
    exact z_iret (pc := 7) C R0 dX3_placeBehindItem_7 (⟨rfl, rfl⟩)

theorem nyX3_placeInItem : yX3_placeInItem.cls ≠ "java/lang/invoke/MethodHandle" ∧ yX3_placeInItem.cls ≠ "java/lang/invoke/VarHandle" ∧ (parseMethodDescriptor yX3_placeInItem.desc).map (fun d => d.parameters.length) = some 1 := by decide +kernel
theorem nyX3_placeBehindDigit : yX3_placeBehindDigit.cls ≠ "java/lang/invoke/MethodHandle" ∧ yX3_placeBehindDigit.cls ≠ "java/lang/invoke/VarHandle" ∧ (parseMethodDescriptor yX3_placeBehindDigit.desc).map (fun d => d.parameters.length) = some 1 := by decide +kernel
theorem nyX3_placeBehindItem : yX3_placeBehindItem.cls ≠ "java/lang/invoke/MethodHandle" ∧ yX3_placeBehindItem.cls ≠ "java/lang/invoke/VarHandle" ∧ (parseMethodDescriptor yX3_placeBehindItem.desc).map (fun d => d.parameters.length) = some 2 := by decide +kernel
set_option maxHeartbeats 4000000 in
set_option maxRecDepth 100000 in
theorem k_X3_placeBehind (l : Launch) (G : ZG) (q c d : Int) (hq : 0 ≤ q ∧ q ≤ 5) (hc : 0 ≤ c ∧ c < 65536) (hd : iR d) : Kt l G yX3_placeBehind wsX3_placeBehind { frames := 3, cells := 0, slots := 0, locals := 62 } 0 0 False [.int (iI q), .int (iI c), .int (iI d)] [] (fun v9 w9 => v9 = some (.int (iI ((zpl q c d)))) ∧ w9 = []) := by
  refine Kt.of (cc := cX3_placeBehind) (nL := 3) (ret := (some .int)) (own := RX3) rfl (by decide +kernel) rfl (Nat.le_of_ble_eq_true rfl) ?_
  intro X Y C R0 hin
  show Z l X G Y 3 0 0 0 [(0, .int (iI q)), (1, .int (iI c)), (2, .int (iI d))] [] []
  refine z_iload_n (pc := 0) C dX3_placeBehind_0 0 rfl ?_
  rcases (show q = 0 ∨ q = 1 ∨ q = 2 ∨ q = 3 ∨ q = 4 ∨ q = 5 by omega) with hs | hs | hs | hs | hs | hs
  · refine z_topi (y := 0) hs ?_
    refine z_tabIn (tgt := 36) (pc := 1) C dX3_placeBehind_1 (by decide) (by decide) (by decide) rfl (by decide) ?_
    refine z_iload_n (pc := 36) C dX3_placeBehind_36 1 rfl ?_
    refine z_callS (As := [.int (iI c)]) (rest := []) (wc := []) (wr := []) (pc := 37) C dX3_placeBehind_37 (k_X3_placeInItem l G c hc) gX3_placeBehind_X3_placeInItem ⟨⟨_, rfl⟩, ⟨rfl, rfl⟩, nyX3_placeInItem, ⟨Nat.le_of_ble_eq_true rfl, Nat.le_of_ble_eq_true rfl⟩⟩ (fun h => h) rfl (Nat.le_of_ble_eq_true rfl) [] [] rfl rfl (by decide) (by decide) (by decide) ⟨Nat.le_of_ble_eq_true rfl, Nat.le_of_ble_eq_true rfl⟩ (fun v w hk => ?_)
    obtain ⟨rfl, rfl⟩ := hk
    refine z_fix (pc2 := 40) (st2 := [.int (iI ((zpi c)))]) (ws' := []) [] rfl rfl rfl (by decide) ?_
    refine z_topi (y := (zpl q c d)) (by rw [hs, zpl_0]) ?_
    exact z_iret (pc := 40) C R0 dX3_placeBehind_40 (⟨rfl, rfl⟩)
  · refine z_topi (y := 1) hs ?_
    refine z_tabIn (tgt := 41) (pc := 1) C dX3_placeBehind_1 (by decide) (by decide) (by decide) rfl (by decide) ?_
    refine z_iload_n (pc := 41) C dX3_placeBehind_41 1 rfl ?_
    refine z_callS (As := [.int (iI c)]) (rest := []) (wc := []) (wr := []) (pc := 42) C dX3_placeBehind_42 (k_X3_placeBehindDigit l G c hc) gX3_placeBehind_X3_placeBehindDigit ⟨⟨_, rfl⟩, ⟨rfl, rfl⟩, nyX3_placeBehindDigit, ⟨Nat.le_of_ble_eq_true rfl, Nat.le_of_ble_eq_true rfl⟩⟩ (fun h => h) rfl (Nat.le_of_ble_eq_true rfl) [] [] rfl rfl (by decide) (by decide) (by decide) ⟨Nat.le_of_ble_eq_true rfl, Nat.le_of_ble_eq_true rfl⟩ (fun v w hk => ?_)
    obtain ⟨rfl, rfl⟩ := hk
    refine z_fix (pc2 := 45) (st2 := [.int (iI ((zpd c)))]) (ws' := []) [] rfl rfl rfl (by decide) ?_
    refine z_topi (y := (zpl q c d)) (by rw [hs, zpl_1]) ?_
    exact z_iret (pc := 45) C R0 dX3_placeBehind_45 (⟨rfl, rfl⟩)
  · refine z_topi (y := 2) hs ?_
    refine z_tabIn (tgt := 46) (pc := 1) C dX3_placeBehind_1 (by decide) (by decide) (by decide) rfl (by decide) ?_
    refine z_iload_n (pc := 46) C dX3_placeBehind_46 1 rfl ?_
    refine z_bipush (pc := 47) C dX3_placeBehind_47 (by decide +kernel) ?_
    refine z_icmp_ne (tgt := 56) (pc := 49) C dX3_placeBehind_49 (by decide) ⟨by omega, by omega⟩ (by decide) (fun c49 => ?_) (fun c49 => ?_)
    · refine z_iload_n (pc := 56) C dX3_placeBehind_56 1 rfl ?_
      refine z_callS (As := [.int (iI c)]) (rest := []) (wc := []) (wr := []) (pc := 57) C dX3_placeBehind_57 (k_X3_placeBehindDigit l G c hc) gX3_placeBehind_X3_placeBehindDigit ⟨⟨_, rfl⟩, ⟨rfl, rfl⟩, nyX3_placeBehindDigit, ⟨Nat.le_of_ble_eq_true rfl, Nat.le_of_ble_eq_true rfl⟩⟩ (fun h => h) rfl (Nat.le_of_ble_eq_true rfl) [] [] rfl rfl (by decide) (by decide) (by decide) ⟨Nat.le_of_ble_eq_true rfl, Nat.le_of_ble_eq_true rfl⟩ (fun v w hk => ?_)
      obtain ⟨rfl, rfl⟩ := hk
      refine z_fix (pc2 := 60) (st2 := [.int (iI ((zpd c)))]) (ws' := []) [] rfl rfl rfl (by decide) ?_
      refine z_topi (y := (zpl q c d)) (by rw [hs, zpl_2, if_neg c49]) ?_
      exact z_iret (pc := 60) C R0 dX3_placeBehind_60 (⟨rfl, rfl⟩)
    · refine z_iconst (pc := 52) C dX3_placeBehind_52 ?_
      refine z_goto (tgt := 60) (pc := 53) C dX3_placeBehind_53 (by decide) ?_
      refine z_topi (y := (zpl q c d)) (by rw [hs, zpl_2, if_pos c49]) ?_
      exact z_iret (pc := 60) C R0 dX3_placeBehind_60 (⟨rfl, rfl⟩)
  · refine z_topi (y := 3) hs ?_
    refine z_tabIn (tgt := 61) (pc := 1) C dX3_placeBehind_1 (by decide) (by decide) (by decide) rfl (by decide) ?_
    refine z_iload_n (pc := 61) C dX3_placeBehind_61 1 rfl ?_
    refine z_bipush (pc := 62) C dX3_placeBehind_62 (by decide +kernel) ?_
    refine z_bipush (pc := 64) C dX3_placeBehind_64 (by decide +kernel) ?_
    refine z_callS (As := [.int (iI c), .int (iI 49), .int (iI 57)]) (rest := []) (wc := []) (wr := []) (pc := 66) C dX3_placeBehind_66 (k_X3_isBetween l G c 49 57 hc (by decide) (by decide)) gX3_placeBehind_X3_isBetween ⟨⟨_, rfl⟩, ⟨rfl, rfl⟩, nyX3_isBetween, ⟨Nat.le_of_ble_eq_true rfl, Nat.le_of_ble_eq_true rfl⟩⟩ (fun h => h) rfl (Nat.le_of_ble_eq_true rfl) [] [] rfl rfl (by decide) (by decide) (by decide) ⟨Nat.le_of_ble_eq_true rfl, Nat.le_of_ble_eq_true rfl⟩ (fun v w hk => ?_)
    obtain ⟨r_66, h66_0, rfl, rfl⟩ := hk
    refine z_fix (pc2 := 69) (st2 := [.int (iI r_66)]) (ws' := []) [] rfl rfl rfl (by decide) ?_
    refine z_if_eq (tgt := 76) (pc := 69) C dX3_placeBehind_69 (by decide) ⟨by omega, by omega⟩ (fun c69 => ?_) (fun c69 => ?_)
    · refine z_bipush (pc := 76) C dX3_placeBehind_76 (by decide +kernel) ?_
      refine z_topi (y := (zpl q c d)) (by rw [hs, zpl_3, if_neg (by omega)]) ?_
      exact z_iret (pc := 78) C R0 dX3_placeBehind_78 (⟨rfl, rfl⟩)
    · refine z_iconst (pc := 72) C dX3_placeBehind_72 ?_
      refine z_goto (tgt := 78) (pc := 73) C dX3_placeBehind_73 (by decide) ?_
      refine z_topi (y := (zpl q c d)) (by rw [hs, zpl_3, if_pos (by omega)]) ?_
      exact z_iret (pc := 78) C R0 dX3_placeBehind_78 (⟨rfl, rfl⟩)
  · refine z_topi (y := 4) hs ?_
    refine z_tabIn (tgt := 79) (pc := 1) C dX3_placeBehind_1 (by decide) (by decide) (by decide) rfl (by decide) ?_
    refine z_iload_n (pc := 79) C dX3_placeBehind_79 1 rfl ?_
    refine z_bipush (pc := 80) C dX3_placeBehind_80 (by decide +kernel) ?_
    refine z_bipush (pc := 82) C dX3_placeBehind_82 (by decide +kernel) ?_
    refine z_callS (As := [.int (iI c), .int (iI 48), .int (iI 57)]) (rest := []) (wc := []) (wr := []) (pc := 84) C dX3_placeBehind_84 (k_X3_isBetween l G c 48 57 hc (by decide) (by decide)) gX3_placeBehind_X3_isBetween ⟨⟨_, rfl⟩, ⟨rfl, rfl⟩, nyX3_isBetween, ⟨Nat.le_of_ble_eq_true rfl, Nat.le_of_ble_eq_true rfl⟩⟩ (fun h => h) rfl (Nat.le_of_ble_eq_true rfl) [] [] rfl rfl (by decide) (by decide) (by decide) ⟨Nat.le_of_ble_eq_true rfl, Nat.le_of_ble_eq_true rfl⟩ (fun v w hk => ?_)
    obtain ⟨r_84, h84_0, rfl, rfl⟩ := hk
    refine z_fix (pc2 := 87) (st2 := [.int (iI r_84)]) (ws' := []) [] rfl rfl rfl (by decide) ?_
    refine z_if_eq (tgt := 94) (pc := 87) C dX3_placeBehind_87 (by decide) ⟨by omega, by omega⟩ (fun c87 => ?_) (fun c87 => ?_)
    · refine z_iload_n (pc := 94) C dX3_placeBehind_94 1 rfl ?_
      refine z_iload_n (pc := 95) C dX3_placeBehind_95 2 rfl ?_
      refine z_callS (As := [.int (iI c), .int (iI d)]) (rest := []) (wc := []) (wr := []) (pc := 96) C dX3_placeBehind_96 (k_X3_placeBehindItem l G c d hc hd) gX3_placeBehind_X3_placeBehindItem ⟨⟨_, rfl⟩, ⟨rfl, rfl⟩, nyX3_placeBehindItem, ⟨Nat.le_of_ble_eq_true rfl, Nat.le_of_ble_eq_true rfl⟩⟩ (fun h => h) rfl (Nat.le_of_ble_eq_true rfl) [] [] rfl rfl (by decide) (by decide) (by decide) ⟨Nat.le_of_ble_eq_true rfl, Nat.le_of_ble_eq_true rfl⟩ (fun v w hk => ?_)
      obtain ⟨rfl, rfl⟩ := hk
      refine z_fix (pc2 := 99) (st2 := [.int (iI ((zpb c d)))]) (ws' := []) [] rfl rfl rfl (by decide) ?_
      refine z_topi (y := (zpl q c d)) (by rw [hs, zpl_4, if_neg (by omega)]) ?_
      exact z_iret (pc := 99) C R0 dX3_placeBehind_99 (⟨rfl, rfl⟩)
    · refine z_iconst (pc := 90) C dX3_placeBehind_90 ?_
      refine z_goto (tgt := 99) (pc := 91) C dX3_placeBehind_91 (by decide) ?_
      refine z_topi (y := (zpl q c d)) (by rw [hs, zpl_4, if_pos (by omega)]) ?_
      exact z_iret (pc := 99) C R0 dX3_placeBehind_99 (⟨rfl, rfl⟩)
  · refine z_tabOut (tgt := 100) (pc := 1) C dX3_placeBehind_1 ⟨by omega, by omega⟩ (by omega) (by decide) ?_
    refine z_iload_n (pc := 100) C dX3_placeBehind_100 1 rfl ?_
    refine z_iload_n (pc := 101) C dX3_placeBehind_101 2 rfl ?_
    refine z_callS (As := [.int (iI c), .int (iI d)]) (rest := []) (wc := []) (wr := []) (pc := 102) C dX3_placeBehind_102 (k_X3_placeBehindItem l G c d hc hd) gX3_placeBehind_X3_placeBehindItem ⟨⟨_, rfl⟩, ⟨rfl, rfl⟩, nyX3_placeBehindItem, ⟨Nat.le_of_ble_eq_true rfl, Nat.le_of_ble_eq_true rfl⟩⟩ (fun h => h) rfl (Nat.le_of_ble_eq_true rfl) [] [] rfl rfl (by decide) (by decide) (by decide) ⟨Nat.le_of_ble_eq_true rfl, Nat.le_of_ble_eq_true rfl⟩ (fun v w hk => ?_)
    obtain ⟨rfl, rfl⟩ := hk
    refine z_fix (pc2 := 105) (st2 := [.int (iI ((zpb c d)))]) (ws' := []) [] rfl rfl rfl (by decide) ?_
    refine z_topi (y := (zpl q c d)) (by rw [hs, zpl_5]) ?_
    exact z_iret (pc := 105) C R0 dX3_placeBehind_105 (⟨rfl, rfl⟩)

theorem ffX3_length_22 : zFF wsX3_length RX3 22 RX3 TX3 5 3 := ⟨by decide +kernel, by decide, by decide +kernel⟩
set_option maxHeartbeats 4000000 in
set_option maxRecDepth 100000 in
theorem k_X3_length (l : Launch) (G : ZG) (x t1 t2 t3 : Nat) (T F R : Nat → Int) (n o : Nat) (hT : ∀ i, 0 ≤ T i ∧ T i < 65536) (hn60 : n ≤ 60) : Kt l G yX3_length wsX3_length { frames := 0, cells := 0, slots := 0, locals := 0 } 0 0 False [.ref x] [(x, .inr (3, [.ref t1, .ref t2, .ref t3, .int (iI ((n : Int))), .int (iI ((o : Int)))])), cC G t1 60 T, cI G t2 30 F, cI G t3 30 R] (fun v9 w9 => v9 = some (.int (iI ((n : Int)))) ∧ w9 = [(x, .inr (3, [.ref t1, .ref t2, .ref t3, .int (iI ((n : Int))), .int (iI ((o : Int)))])), cC G t1 60 T, cI G t2 30 F, cI G t3 30 R]) := by
  refine Kt.of (cc := cX3_length) (nL := 1) (ret := (some .int)) (own := RX3) rfl (by decide +kernel) rfl (Nat.le_of_ble_eq_true rfl) ?_
  intro X Y C R0 hin
  show Z l X G Y 1 0 0 0 [(0, .ref x)] [] [(x, .inr (3, [.ref t1, .ref t2, .ref t3, .int (iI ((n : Int))), .int (iI ((o : Int)))])), cC G t1 60 T, cI G t2 30 F, cI G t3 30 R]
  refine z_aload_n (pc := 0) C dX3_length_0 0 rfl ?_
  refine z_get (pc := 1) C dX3_length_1 zCl3 ffX3_length_22 0 rfl rfl ?_
  exact z_iret (pc := 4) C R0 dX3_length_4 (⟨rfl, rfl⟩)

theorem ffX3_empty_22 : zFF wsX3_empty RX3 22 RX3 TX3 5 3 := ⟨by decide +kernel, by decide, by decide +kernel⟩
set_option maxHeartbeats 4000000 in
set_option maxRecDepth 100000 in
theorem k_X3_empty (l : Launch) (G : ZG) (x t1 t2 t3 : Nat) (T F R : Nat → Int) (n o : Nat) (hT : ∀ i, 0 ≤ T i ∧ T i < 65536) (hn60 : n ≤ 60) : Kt l G yX3_empty wsX3_empty { frames := 0, cells := 0, slots := 0, locals := 0 } 0 0 False [.ref x] [(x, .inr (3, [.ref t1, .ref t2, .ref t3, .int (iI ((n : Int))), .int (iI ((o : Int)))])), cC G t1 60 T, cI G t2 30 F, cI G t3 30 R] (fun v9 w9 => v9 = none ∧ w9 = [(x, .inr (3, [.ref t1, .ref t2, .ref t3, .int (iI ((0 : Int))), .int (iI ((o : Int)))])), cC G t1 60 T, cI G t2 30 F, cI G t3 30 R]) := by
  refine Kt.of (cc := cX3_empty) (nL := 1) (ret := none) (own := RX3) rfl (by decide +kernel) rfl (Nat.le_of_ble_eq_true rfl) ?_
  intro X Y C R0 hin
  show Z l X G Y 1 0 0 0 [(0, .ref x)] [] [(x, .inr (3, [.ref t1, .ref t2, .ref t3, .int (iI ((n : Int))), .int (iI ((o : Int)))])), cC G t1 60 T, cI G t2 30 F, cI G t3 30 R]
  refine z_aload_n (pc := 0) C dX3_empty_0 0 rfl ?_
  refine z_iconst (pc := 1) C dX3_empty_1 ?_
  refine z_put (ty := .int) (ws' := [(x, .inr (3, [.ref t1, .ref t2, .ref t3, .int (iI 0), .int (iI ((o : Int)))])), cC G t1 60 T, cI G t2 30 F, cI G t3 30 R]) (pc := 2) C dX3_empty_2 zCl3 ffX3_empty_22 0 rfl rfl rfl rfl rfl (Nat.le_of_ble_eq_true rfl) rfl ?_
  exact z_vret (pc := 5) C R0 dX3_empty_5 (⟨rfl, rfl⟩)

theorem ffX3_append_22 : zFF wsX3_append RX3 22 RX3 TX3 5 3 := ⟨by decide +kernel, by decide, by decide +kernel⟩
theorem ffX3_append_11 : zFF wsX3_append RX3 11 RX3 TX3 5 0 := ⟨by decide +kernel, by decide, by decide +kernel⟩
set_option maxHeartbeats 4000000 in
set_option maxRecDepth 100000 in
theorem k_X3_append_t (l : Launch) (G : ZG) (x t1 t2 t3 : Nat) (T F R : Nat → Int) (n o : Nat) (hT : ∀ i, 0 ≤ T i ∧ T i < 65536) (hn60 : n ≤ 60) (c : Int) (hc : 0 ≤ c ∧ c < 65536) (hr : n < 60) : Kt l G yX3_append wsX3_append { frames := 0, cells := 0, slots := 0, locals := 0 } 0 0 False [.ref x, .int (iI c)] [(x, .inr (3, [.ref t1, .ref t2, .ref t3, .int (iI ((n : Int))), .int (iI ((o : Int)))])), cC G t1 60 T, cI G t2 30 F, cI G t3 30 R] (fun v9 w9 => v9 = some (.int (iI 1)) ∧ w9 = [(x, .inr (3, [.ref t1, .ref t2, .ref t3, .int (iI ((((n + 1) : Nat) : Int))), .int (iI ((o : Int)))])), cC G t1 60 (zU T n c), cI G t2 30 F, cI G t3 30 R]) := by
  refine Kt.of (cc := cX3_append) (nL := 2) (ret := (some .boolean)) (own := RX3) rfl (by decide +kernel) rfl (Nat.le_of_ble_eq_true rfl) ?_
  intro X Y C R0 hin
  show Z l X G Y 2 0 0 0 [(0, .ref x), (1, .int (iI c))] [] [(x, .inr (3, [.ref t1, .ref t2, .ref t3, .int (iI ((n : Int))), .int (iI ((o : Int)))])), cC G t1 60 T, cI G t2 30 F, cI G t3 30 R]
  refine z_aload_n (pc := 0) C dX3_append_0 0 rfl ?_
  refine z_get (pc := 1) C dX3_append_1 zCl3 ffX3_append_22 0 rfl rfl ?_
  refine z_bipush (pc := 4) C dX3_append_4 (by decide +kernel) ?_
  refine z_icmp_lt (tgt := 11) (pc := 6) C dX3_append_6 (by decide) ⟨by omega, by omega⟩ (by decide) (fun c6 => ?_) (fun c6 => ?_)
  · refine z_aload_n (pc := 11) C dX3_append_11 0 rfl ?_
    refine z_get (pc := 12) C dX3_append_12 zCl3 ffX3_append_11 0 rfl rfl ?_
    refine z_aload_n (pc := 15) C dX3_append_15 0 rfl ?_
    refine z_get (pc := 16) C dX3_append_16 zCl3 ffX3_append_22 0 rfl rfl ?_
    refine z_iload_n (pc := 19) C dX3_append_19 1 rfl ?_
    refine z_cast (ws' := [(x, .inr (3, [.ref t1, .ref t2, .ref t3, .int (iI ((n : Int))), .int (iI ((o : Int)))])), cC G t1 60 (zU T n c), cI G t2 30 F, cI G t3 30 R]) (pc := 20) C dX3_append_20 1 rfl (n) (by omega) (by omega) (by decide) ⟨by omega, by omega⟩ rfl ?_
    refine z_aload_n (pc := 21) C dX3_append_21 0 rfl ?_
    refine z_dup (pc := 22) C dX3_append_22 rfl ?_
    refine z_get (pc := 23) C dX3_append_23 zCl3 ffX3_append_22 0 rfl rfl ?_
    refine z_iconst (pc := 26) C dX3_append_26 ?_
    refine z_iadd (pc := 27) C dX3_append_27 ?_
    refine z_put (ty := .int) (ws' := [(x, .inr (3, [.ref t1, .ref t2, .ref t3, .int (iI (((n : Int) + 1))), .int (iI ((o : Int)))])), cC G t1 60 (zU T n c), cI G t2 30 F, cI G t3 30 R]) (pc := 28) C dX3_append_28 zCl3 ffX3_append_22 0 rfl rfl rfl rfl rfl (Nat.le_of_ble_eq_true rfl) rfl ?_
    refine z_iconst (pc := 31) C dX3_append_31 ?_
    exact z_zret (pc := 32) C R0 (by decide) dX3_append_32 (⟨rfl, rfl⟩)
  · exfalso; omega

set_option maxHeartbeats 4000000 in
set_option maxRecDepth 100000 in
theorem k_X3_append_f (l : Launch) (G : ZG) (x t1 t2 t3 : Nat) (T F R : Nat → Int) (n o : Nat) (hT : ∀ i, 0 ≤ T i ∧ T i < 65536) (hn60 : n ≤ 60) (c : Int) (hc : 0 ≤ c ∧ c < 65536) (hr : ¬ n < 60) : Kt l G yX3_append wsX3_append { frames := 0, cells := 0, slots := 0, locals := 0 } 0 0 False [.ref x, .int (iI c)] [(x, .inr (3, [.ref t1, .ref t2, .ref t3, .int (iI ((n : Int))), .int (iI ((o : Int)))])), cC G t1 60 T, cI G t2 30 F, cI G t3 30 R] (fun v9 w9 => v9 = some (.int (iI 0)) ∧ w9 = [(x, .inr (3, [.ref t1, .ref t2, .ref t3, .int (iI ((n : Int))), .int (iI ((o : Int)))])), cC G t1 60 T, cI G t2 30 F, cI G t3 30 R]) := by
  refine Kt.of (cc := cX3_append) (nL := 2) (ret := (some .boolean)) (own := RX3) rfl (by decide +kernel) rfl (Nat.le_of_ble_eq_true rfl) ?_
  intro X Y C R0 hin
  show Z l X G Y 2 0 0 0 [(0, .ref x), (1, .int (iI c))] [] [(x, .inr (3, [.ref t1, .ref t2, .ref t3, .int (iI ((n : Int))), .int (iI ((o : Int)))])), cC G t1 60 T, cI G t2 30 F, cI G t3 30 R]
  refine z_aload_n (pc := 0) C dX3_append_0 0 rfl ?_
  refine z_get (pc := 1) C dX3_append_1 zCl3 ffX3_append_22 0 rfl rfl ?_
  refine z_bipush (pc := 4) C dX3_append_4 (by decide +kernel) ?_
  refine z_icmp_lt (tgt := 11) (pc := 6) C dX3_append_6 (by decide) ⟨by omega, by omega⟩ (by decide) (fun c6 => ?_) (fun c6 => ?_)
  · exfalso; omega
  · refine z_iconst (pc := 9) C dX3_append_9 ?_
    exact z_zret (pc := 10) C R0 (by decide) dX3_append_10 (⟨rfl, rfl⟩)

theorem ffX3_characterAt_22 : zFF wsX3_characterAt RX3 22 RX3 TX3 5 3 := ⟨by decide +kernel, by decide, by decide +kernel⟩
theorem ffX3_characterAt_11 : zFF wsX3_characterAt RX3 11 RX3 TX3 5 0 := ⟨by decide +kernel, by decide, by decide +kernel⟩
set_option maxHeartbeats 4000000 in
set_option maxRecDepth 100000 in
theorem k_X3_characterAt (l : Launch) (G : ZG) (x t1 t2 t3 : Nat) (T F R : Nat → Int) (n o : Nat) (hT : ∀ i, 0 ≤ T i ∧ T i < 65536) (hn60 : n ≤ 60) (z : Int) (hz : iR z) : Kt l G yX3_characterAt wsX3_characterAt { frames := 0, cells := 0, slots := 0, locals := 0 } 0 0 False [.ref x, .int (iI z)] [(x, .inr (3, [.ref t1, .ref t2, .ref t3, .int (iI ((n : Int))), .int (iI ((o : Int)))])), cC G t1 60 T, cI G t2 30 F, cI G t3 30 R] (fun v9 w9 => v9 = some (.int (iI ((zch T n z)))) ∧ w9 = [(x, .inr (3, [.ref t1, .ref t2, .ref t3, .int (iI ((n : Int))), .int (iI ((o : Int)))])), cC G t1 60 T, cI G t2 30 F, cI G t3 30 R]) := by
  refine Kt.of (cc := cX3_characterAt) (nL := 2) (ret := (some .char)) (own := RX3) rfl (by decide +kernel) rfl (Nat.le_of_ble_eq_true rfl) ?_
  intro X Y C R0 hin
  show Z l X G Y 2 0 0 0 [(0, .ref x), (1, .int (iI z))] [] [(x, .inr (3, [.ref t1, .ref t2, .ref t3, .int (iI ((n : Int))), .int (iI ((o : Int)))])), cC G t1 60 T, cI G t2 30 F, cI G t3 30 R]
  refine z_iload_n (pc := 0) C dX3_characterAt_0 1 rfl ?_
  refine z_if_lt (tgt := 12) (pc := 1) C dX3_characterAt_1 (by decide) ⟨by omega, by omega⟩ (fun c1 => ?_) (fun c1 => ?_)
  · refine z_iconst (pc := 12) C dX3_characterAt_12 ?_
    refine z_goto (tgt := 22) (pc := 13) C dX3_characterAt_13 (by decide) ?_
    have hzc := zch_b hT n z
    refine z_topi (y := (zch T n z)) ((zch_out (Or.inl c1)).symm) ?_
    exact z_zret (pc := 22) C R0 (zNc (zch_b hT n z)) dX3_characterAt_22 (⟨rfl, rfl⟩)
  · refine z_iload_n (pc := 4) C dX3_characterAt_4 1 rfl ?_
    refine z_aload_n (pc := 5) C dX3_characterAt_5 0 rfl ?_
    refine z_get (pc := 6) C dX3_characterAt_6 zCl3 ffX3_characterAt_22 0 rfl rfl ?_
    refine z_icmp_lt (tgt := 16) (pc := 9) C dX3_characterAt_9 (by decide) ⟨by omega, by omega⟩ ⟨by omega, by omega⟩ (fun c9 => ?_) (fun c9 => ?_)
    · refine z_aload_n (pc := 16) C dX3_characterAt_16 0 rfl ?_
      refine z_get (pc := 17) C dX3_characterAt_17 zCl3 ffX3_characterAt_11 0 rfl rfl ?_
      refine z_iload_n (pc := 20) C dX3_characterAt_20 1 rfl ?_
      refine z_cald (pc := 21) C dX3_characterAt_21 1 rfl ((z).toNat) (by omega) (by omega) (by decide) ?_
      have hzc := zch_b hT n z
      refine z_topi (y := (zch T n z)) (by unfold zch; rw [if_pos (by omega)]) ?_
      exact z_zret (pc := 22) C R0 (zNc (zch_b hT n z)) dX3_characterAt_22 (⟨rfl, rfl⟩)
    · refine z_iconst (pc := 12) C dX3_characterAt_12 ?_
      refine z_goto (tgt := 22) (pc := 13) C dX3_characterAt_13 (by decide) ?_
      have hzc := zch_b hT n z
      refine z_topi (y := (zch T n z)) ((zch_out (Or.inr (by omega))).symm) ?_
      exact z_zret (pc := 22) C R0 (zNc (zch_b hT n z)) dX3_characterAt_22 (⟨rfl, rfl⟩)

theorem ffX3_fault_22 : zFF wsX3_fault RX3 22 RX3 TX3 5 3 := ⟨by decide +kernel, by decide, by decide +kernel⟩
theorem nyX3_characterAt : yX3_characterAt.cls ≠ "java/lang/invoke/MethodHandle" ∧ yX3_characterAt.cls ≠ "java/lang/invoke/VarHandle" ∧ (parseMethodDescriptor yX3_characterAt.desc).map (fun d => d.parameters.length) = some 1 := by decide +kernel
theorem nyX3_placeBehind : yX3_placeBehind.cls ≠ "java/lang/invoke/MethodHandle" ∧ yX3_placeBehind.cls ≠ "java/lang/invoke/VarHandle" ∧ (parseMethodDescriptor yX3_placeBehind.desc).map (fun d => d.parameters.length) = some 3 := by decide +kernel
set_option maxHeartbeats 4000000 in
set_option maxRecDepth 100000 in
theorem k_X3_fault (l : Launch) (G : ZG) (x t1 t2 t3 : Nat) (T F R : Nat → Int) (n o : Nat) (hT : ∀ i, 0 ≤ T i ∧ T i < 65536) (hn60 : n ≤ 60) : Kt l G yX3_fault wsX3_fault { frames := 4, cells := 0, slots := 0, locals := 84 } 0 0 False [.ref x] [(x, .inr (3, [.ref t1, .ref t2, .ref t3, .int (iI ((n : Int))), .int (iI ((o : Int)))])), cC G t1 60 T, cI G t2 30 F, cI G t3 30 R] (fun v9 w9 => v9 = some (.int (iI ((zfault T n)))) ∧ w9 = [(x, .inr (3, [.ref t1, .ref t2, .ref t3, .int (iI ((n : Int))), .int (iI ((o : Int)))])), cC G t1 60 T, cI G t2 30 F, cI G t3 30 R]) := by
  refine Kt.of (cc := cX3_fault) (nL := 5) (ret := (some .int)) (own := RX3) rfl (by decide +kernel) rfl (Nat.le_of_ble_eq_true rfl) ?_
  intro X Y C R0 hin
  show Z l X G Y 5 0 0 0 [(0, .ref x)] [] [(x, .inr (3, [.ref t1, .ref t2, .ref t3, .int (iI ((n : Int))), .int (iI ((o : Int)))])), cC G t1 60 T, cI G t2 30 F, cI G t3 30 R]
  refine z_iconst (pc := 0) C dX3_fault_0 ?_
  refine z_istore_n (lv' := [(1, .int (iI 0)), (0, .ref x)]) (pc := 1) C dX3_fault_1 (by decide) rfl ?_
  refine z_iconst (pc := 2) C dX3_fault_2 ?_
  refine z_istore_n (lv' := [(2, .int (iI 0)), (1, .int (iI 0)), (0, .ref x)]) (pc := 3) C dX3_fault_3 (by decide) rfl ?_
  refine z_iconst (pc := 4) C dX3_fault_4 ?_
  refine z_istore_n (lv' := [(3, .int (iI 0)), (2, .int (iI 0)), (1, .int (iI 0)), (0, .ref x)]) (pc := 5) C dX3_fault_5 (by decide) rfl ?_
  have L6 : ∀ (m : Nat) (i : Nat) (q d : Int), n < i + m → i ≤ n → (0 ≤ q ∧ q ≤ 5) → (-(i : Int) ≤ d ∧ d ≤ i) → zfa T n (n - i) q d = zfault T n → Z l X G Y 5 0 0 6 [(0, .ref x), (1, .int (iI q)), (2, .int (iI d)), (3, .int (iI ((i : Int))))] [] [(x, .inr (3, [.ref t1, .ref t2, .ref t3, .int (iI ((n : Int))), .int (iI ((o : Int)))])), cC G t1 60 T, cI G t2 30 F, cI G t3 30 R] := by
    intro m
    induction m with
    | zero => intro i q d hn hi hq hd hz; exact absurd hn (by omega)
    | succ m ih =>
      intro i q d hn hi hq hd hz
      refine z_iload_n (pc := 6) C dX3_fault_6 3 rfl ?_
      refine z_aload_n (pc := 7) C dX3_fault_7 0 rfl ?_
      refine z_get (pc := 8) C dX3_fault_8 zCl3 ffX3_fault_22 0 rfl rfl ?_
      refine z_icmp_ge (tgt := 66) (pc := 11) C dX3_fault_11 (by decide) ⟨by omega, by omega⟩ ⟨by omega, by omega⟩ (fun c11 => ?_) (fun c11 => ?_)
      · refine z_iload_n (pc := 66) C dX3_fault_66 1 rfl ?_
        refine z_iconst (pc := 67) C dX3_fault_67 ?_
        refine z_icmp_eq (tgt := 76) (pc := 68) C dX3_fault_68 (by decide) ⟨by omega, by omega⟩ (by decide) (fun c68 => ?_) (fun c68 => ?_)
        · refine z_iconst (pc := 76) C dX3_fault_76 ?_
          refine z_goto (tgt := 81) (pc := 77) C dX3_fault_77 (by decide) ?_
          refine z_istore_n (lv' := [(3, .int (iI 1)), (0, .ref x), (1, .int (iI q)), (2, .int (iI d))]) (pc := 81) C dX3_fault_81 (by decide) rfl ?_
          refine z_iload_n (pc := 82) C dX3_fault_82 0 rfl ?_
          refine z_if_eq (tgt := 95) (pc := 83) C dX3_fault_83 (by decide) (by decide) (fun c83 => ?_) (fun c83 => ?_)
          · exfalso; omega
          · refine z_iload_n (pc := 86) C dX3_fault_86 3 rfl ?_
            refine z_if_ne (tgt := 95) (pc := 87) C dX3_fault_87 (by decide) ⟨by omega, by omega⟩ (fun c87 => ?_) (fun c87 => ?_)
            · refine z_aload_n (pc := 95) C dX3_fault_95 1 rfl ?_
              refine z_get (pc := 96) C dX3_fault_96 zCl3 ffX3_fault_22 0 rfl rfl ?_
              refine z_topi (y := (zfault T n)) (by rw [← hz, zfa_e (by omega), if_neg (by omega)]) ?_
              exact z_iret (pc := 99) C R0 dX3_fault_99 (⟨rfl, rfl⟩)
            · refine z_bipush (pc := 90) C dX3_fault_90 (by decide +kernel) ?_
              refine z_goto (tgt := 99) (pc := 92) C dX3_fault_92 (by decide) ?_
              refine z_topi (y := (zfault T n)) (by rw [← hz, zfa_e (by omega), if_pos (by omega)]) ?_
              exact z_iret (pc := 99) C R0 dX3_fault_99 (⟨rfl, rfl⟩)
        · refine z_iload_n (pc := 71) C dX3_fault_71 1 rfl ?_
          refine z_iconst (pc := 72) C dX3_fault_72 ?_
          refine z_icmp_ne (tgt := 80) (pc := 73) C dX3_fault_73 (by decide) ⟨by omega, by omega⟩ (by decide) (fun c73 => ?_) (fun c73 => ?_)
          · refine z_iconst (pc := 80) C dX3_fault_80 ?_
            refine z_istore_n (lv' := [(3, .int (iI 0)), (0, .ref x), (1, .int (iI q)), (2, .int (iI d))]) (pc := 81) C dX3_fault_81 (by decide) rfl ?_
            refine z_iload_n (pc := 82) C dX3_fault_82 0 rfl ?_
            refine z_if_eq (tgt := 95) (pc := 83) C dX3_fault_83 (by decide) (by decide) (fun c83 => ?_) (fun c83 => ?_)
            · refine z_aload_n (pc := 95) C dX3_fault_95 1 rfl ?_
              refine z_get (pc := 96) C dX3_fault_96 zCl3 ffX3_fault_22 0 rfl rfl ?_
              refine z_topi (y := (zfault T n)) (by rw [← hz, zfa_e (by omega), if_neg (by omega)]) ?_
              exact z_iret (pc := 99) C R0 dX3_fault_99 (⟨rfl, rfl⟩)
            · exfalso; omega
          · refine z_iconst (pc := 76) C dX3_fault_76 ?_
            refine z_goto (tgt := 81) (pc := 77) C dX3_fault_77 (by decide) ?_
            refine z_istore_n (lv' := [(3, .int (iI 1)), (0, .ref x), (1, .int (iI q)), (2, .int (iI d))]) (pc := 81) C dX3_fault_81 (by decide) rfl ?_
            refine z_iload_n (pc := 82) C dX3_fault_82 0 rfl ?_
            refine z_if_eq (tgt := 95) (pc := 83) C dX3_fault_83 (by decide) (by decide) (fun c83 => ?_) (fun c83 => ?_)
            · exfalso; omega
            · refine z_iload_n (pc := 86) C dX3_fault_86 3 rfl ?_
              refine z_if_ne (tgt := 95) (pc := 87) C dX3_fault_87 (by decide) ⟨by omega, by omega⟩ (fun c87 => ?_) (fun c87 => ?_)
              · refine z_aload_n (pc := 95) C dX3_fault_95 1 rfl ?_
                refine z_get (pc := 96) C dX3_fault_96 zCl3 ffX3_fault_22 0 rfl rfl ?_
                refine z_topi (y := (zfault T n)) (by rw [← hz, zfa_e (by omega), if_neg (by omega)]) ?_
                exact z_iret (pc := 99) C R0 dX3_fault_99 (⟨rfl, rfl⟩)
              · refine z_bipush (pc := 90) C dX3_fault_90 (by decide +kernel) ?_
                refine z_goto (tgt := 99) (pc := 92) C dX3_fault_92 (by decide) ?_
                refine z_topi (y := (zfault T n)) (by rw [← hz, zfa_e (by omega), if_pos (by omega)]) ?_
                exact z_iret (pc := 99) C R0 dX3_fault_99 (⟨rfl, rfl⟩)
      · refine z_aload_n (pc := 14) C dX3_fault_14 0 rfl ?_
        refine z_iload_n (pc := 15) C dX3_fault_15 3 rfl ?_
        refine z_callV (As := [.int (iI ((i : Int)))]) (rest := []) (wc := [(x, .inr (3, [.ref t1, .ref t2, .ref t3, .int (iI ((n : Int))), .int (iI ((o : Int)))])), cC G t1 60 T, cI G t2 30 F, cI G t3 30 R]) (wr := []) (fs := [.ref t1, .ref t2, .ref t3, .int (iI ((n : Int))), .int (iI ((o : Int)))]) (pc := 16) C dX3_fault_16 (k_X3_characterAt l G x t1 t2 t3 T F R n o hT hn60 (i : Int) ⟨by omega, by omega⟩) gX3_fault_X3_characterAt ⟨⟨_, rfl⟩, ⟨rfl, rfl⟩, nyX3_characterAt, ⟨Nat.le_of_ble_eq_true rfl, Nat.le_of_ble_eq_true rfl⟩⟩ rfl zCl3 rfl (fun h => h) rfl (Nat.le_of_ble_eq_true rfl) [0, 1, 2, 3] [] rfl rfl (by decide) (by decide) (by decide) ⟨Nat.le_of_ble_eq_true rfl, Nat.le_of_ble_eq_true rfl⟩ (fun v w hk => ?_)
        obtain ⟨rfl, rfl⟩ := hk
        refine z_fix (pc2 := 19) (st2 := [.int (iI ((zch T n (i : Int))))]) (ws' := [(x, .inr (3, [.ref t1, .ref t2, .ref t3, .int (iI ((n : Int))), .int (iI ((o : Int)))])), cC G t1 60 T, cI G t2 30 F, cI G t3 30 R]) [0, 1, 2, 3] rfl rfl rfl (by decide) ?_
        have hTi := hT i
        have hzpl := zpl_b q (T i) d
        refine z_topi (y := (T i)) (zch_at (by omega)) ?_
        refine z_istore (lv' := [(4, .int (iI ((T i)))), (0, .ref x), (1, .int (iI q)), (2, .int (iI d)), (3, .int (iI ((i : Int))))]) (pc := 19) C dX3_fault_19 (by decide) rfl ?_
        refine z_iload_n (pc := 21) C dX3_fault_21 2 rfl ?_
        refine z_iload (pc := 22) C dX3_fault_22 0 rfl ?_
        refine z_iload_n (pc := 24) C dX3_fault_24 3 rfl ?_
        refine z_callS (As := [.int (iI q), .int (iI ((T i))), .int (iI d)]) (rest := []) (wc := []) (wr := [(x, .inr (3, [.ref t1, .ref t2, .ref t3, .int (iI ((n : Int))), .int (iI ((o : Int)))])), cC G t1 60 T, cI G t2 30 F, cI G t3 30 R]) (pc := 25) C dX3_fault_25 (k_X3_placeBehind l G q (T i) d hq hTi ⟨by omega, by omega⟩) gX3_fault_X3_placeBehind ⟨⟨_, rfl⟩, ⟨rfl, rfl⟩, nyX3_placeBehind, ⟨Nat.le_of_ble_eq_true rfl, Nat.le_of_ble_eq_true rfl⟩⟩ (fun h => h) rfl (Nat.le_of_ble_eq_true rfl) [] [0, 1, 2, 3] rfl rfl (by decide) (by decide) (by decide) ⟨Nat.le_of_ble_eq_true rfl, Nat.le_of_ble_eq_true rfl⟩ (fun v w hk => ?_)
        obtain ⟨rfl, rfl⟩ := hk
        refine z_fix (pc2 := 28) (st2 := [.int (iI ((zpl q (T i) d)))]) (ws' := [(x, .inr (3, [.ref t1, .ref t2, .ref t3, .int (iI ((n : Int))), .int (iI ((o : Int)))])), cC G t1 60 T, cI G t2 30 F, cI G t3 30 R]) [0, 1, 2, 3] rfl rfl rfl (by decide) ?_
        refine z_istore_n (lv' := [(1, .int (iI ((zpl q (T i) d)))), (4, .int (iI ((T i)))), (0, .ref x), (2, .int (iI d)), (3, .int (iI ((i : Int))))]) (pc := 28) C dX3_fault_28 (by decide) rfl ?_
        refine z_iload_n (pc := 29) C dX3_fault_29 0 rfl ?_
        refine z_bipush (pc := 30) C dX3_fault_30 (by decide +kernel) ?_
        refine z_icmp_ne (tgt := 37) (pc := 32) C dX3_fault_32 (by decide) ⟨by omega, by omega⟩ (by decide) (fun c32 => ?_) (fun c32 => ?_)
        · refine z_iload (pc := 37) C dX3_fault_37 1 rfl ?_
          refine z_bipush (pc := 39) C dX3_fault_39 (by decide +kernel) ?_
          refine z_icmp_ne (tgt := 50) (pc := 41) C dX3_fault_41 (by decide) ⟨by omega, by omega⟩ (by decide) (fun c41 => ?_) (fun c41 => ?_)
          · refine z_iload (pc := 50) C dX3_fault_50 1 rfl ?_
            refine z_bipush (pc := 52) C dX3_fault_52 (by decide +kernel) ?_
            refine z_icmp_ne (tgt := 60) (pc := 54) C dX3_fault_54 (by decide) ⟨by omega, by omega⟩ (by decide) (fun c54 => ?_) (fun c54 => ?_)
            · refine z_iinc (lv' := [(3, .int (iI (((i : Int) + 1)))), (1, .int (iI ((zpl q (T i) d)))), (4, .int (iI ((T i)))), (0, .ref x), (2, .int (iI d))]) (pc := 60) C dX3_fault_60 4 rfl (by decide) rfl ?_
              refine z_goto (tgt := 6) (pc := 63) C dX3_fault_63 (by decide) ?_
              refine z_lv (lv' := [(0, .ref x), (1, .int (iI ((zpl q (T i) d)))), (2, .int (iI d)), (3, .int (iI (((i : Int) + 1))))]) [3, 1, 4, 0] rfl ?_
              exact ih (i + 1) (zpl q (T i) d) d (by omega) (by omega) (by omega) (by omega) (by rw [← hz, zfa_s (i := i) (by omega), if_neg c32, zdd_same c41 c54])
            · refine z_iinc (lv' := [(2, .int (iI ((d + (-1))))), (1, .int (iI ((zpl q (T i) d)))), (4, .int (iI ((T i)))), (0, .ref x), (3, .int (iI ((i : Int))))]) (pc := 57) C dX3_fault_57 3 rfl (by decide) rfl ?_
              refine z_iinc (lv' := [(3, .int (iI (((i : Int) + 1)))), (2, .int (iI ((d + (-1))))), (1, .int (iI ((zpl q (T i) d)))), (4, .int (iI ((T i)))), (0, .ref x)]) (pc := 60) C dX3_fault_60 4 rfl (by decide) rfl ?_
              refine z_goto (tgt := 6) (pc := 63) C dX3_fault_63 (by decide) ?_
              refine z_lv (lv' := [(0, .ref x), (1, .int (iI ((zpl q (T i) d)))), (2, .int (iI ((d + (-1))))), (3, .int (iI (((i : Int) + 1))))]) [4, 2, 1, 0] rfl ?_
              exact ih (i + 1) (zpl q (T i) d) (d - 1) (by omega) (by omega) (by omega) (by omega) (by rw [← hz, zfa_s (i := i) (by omega), if_neg c32, show zdd (T i) d = d - 1 by unfold zdd; rw [if_neg c41, if_pos c54]])
          · refine z_iinc (lv' := [(2, .int (iI ((d + 1)))), (1, .int (iI ((zpl q (T i) d)))), (4, .int (iI ((T i)))), (0, .ref x), (3, .int (iI ((i : Int))))]) (pc := 44) C dX3_fault_44 3 rfl (by decide) rfl ?_
            refine z_goto (tgt := 60) (pc := 47) C dX3_fault_47 (by decide) ?_
            refine z_iinc (lv' := [(3, .int (iI (((i : Int) + 1)))), (2, .int (iI ((d + 1)))), (1, .int (iI ((zpl q (T i) d)))), (4, .int (iI ((T i)))), (0, .ref x)]) (pc := 60) C dX3_fault_60 4 rfl (by decide) rfl ?_
            refine z_goto (tgt := 6) (pc := 63) C dX3_fault_63 (by decide) ?_
            refine z_lv (lv' := [(0, .ref x), (1, .int (iI ((zpl q (T i) d)))), (2, .int (iI ((d + 1)))), (3, .int (iI (((i : Int) + 1))))]) [4, 2, 1, 0] rfl ?_
            exact ih (i + 1) (zpl q (T i) d) (d + 1) (by omega) (by omega) (by omega) (by omega) (by rw [← hz, zfa_s (i := i) (by omega), if_neg c32, show zdd (T i) d = d + 1 from if_pos c41])
        · refine z_iload_n (pc := 35) C dX3_fault_35 4 rfl ?_
          refine z_topi (y := (zfault T n)) (by rw [← hz, zfa_s (i := i) (by omega), if_pos c32]) ?_
          exact z_iret (pc := 36) C R0 dX3_fault_36 (⟨rfl, rfl⟩)
  refine z_lv (lv' := [(0, .ref x), (1, .int (iI 0)), (2, .int (iI 0)), (3, .int (iI 0))]) [3, 2, 1, 0] rfl ?_
  exact L6 (n + 1) 0 0 0 (by omega) (by omega) (by omega) (by omega) (by rw [Nat.sub_zero]; rfl)

set_option maxHeartbeats 4000000 in
set_option maxRecDepth 100000 in
theorem k_X3_numberAt (l : Launch) (G : ZG) (x t1 t2 t3 : Nat) (T F R : Nat → Int) (n o : Nat) (hT : ∀ i, 0 ≤ T i ∧ T i < 65536) (hn60 : n ≤ 60) (i : Nat) (hi : i ≤ 100) : Kt l G yX3_numberAt wsX3_numberAt { frames := 2, cells := 0, slots := 0, locals := 42 } 0 0 False [.ref x, .int (iI ((((i + 1) : Nat) : Int)))] [(x, .inr (3, [.ref t1, .ref t2, .ref t3, .int (iI ((n : Int))), .int (iI ((o : Int)))])), cC G t1 60 T, cI G t2 30 F, cI G t3 30 R] (fun v9 w9 => v9 = some (.int (iI ((znum T n i)))) ∧ w9 = [(x, .inr (3, [.ref t1, .ref t2, .ref t3, .int (iI ((n : Int))), .int (iI ((o : Int)))])), cC G t1 60 T, cI G t2 30 F, cI G t3 30 R]) := by
  refine Kt.of (cc := cX3_numberAt) (nL := 4) (ret := (some .int)) (own := RX3) rfl (by decide +kernel) rfl (Nat.le_of_ble_eq_true rfl) ?_
  intro X Y C R0 hin
  show Z l X G Y 4 0 0 0 [(0, .ref x), (1, .int (iI ((((i + 1) : Nat) : Int))))] [] [(x, .inr (3, [.ref t1, .ref t2, .ref t3, .int (iI ((n : Int))), .int (iI ((o : Int)))])), cC G t1 60 T, cI G t2 30 F, cI G t3 30 R]
  refine z_aload_n (pc := 0) C dX3_numberAt_0 0 rfl ?_
  refine z_iload_n (pc := 1) C dX3_numberAt_1 1 rfl ?_
  refine z_callV (As := [.int (iI ((((i + 1) : Nat) : Int)))]) (rest := []) (wc := [(x, .inr (3, [.ref t1, .ref t2, .ref t3, .int (iI ((n : Int))), .int (iI ((o : Int)))])), cC G t1 60 T, cI G t2 30 F, cI G t3 30 R]) (wr := []) (fs := [.ref t1, .ref t2, .ref t3, .int (iI ((n : Int))), .int (iI ((o : Int)))]) (pc := 2) C dX3_numberAt_2 (k_X3_characterAt l G x t1 t2 t3 T F R n o hT hn60 ((i + 1 : Nat) : Int) ⟨by omega, by omega⟩) gX3_numberAt_X3_characterAt ⟨⟨_, rfl⟩, ⟨rfl, rfl⟩, nyX3_characterAt, ⟨Nat.le_of_ble_eq_true rfl, Nat.le_of_ble_eq_true rfl⟩⟩ rfl zCl3 rfl (fun h => h) rfl (Nat.le_of_ble_eq_true rfl) [0, 1, 2, 3] [] rfl rfl (by decide) (by decide) (by decide) ⟨Nat.le_of_ble_eq_true rfl, Nat.le_of_ble_eq_true rfl⟩ (fun v w hk => ?_)
  obtain ⟨rfl, rfl⟩ := hk
  refine z_fix (pc2 := 5) (st2 := [.int (iI ((zch T n ((i + 1 : Nat) : Int))))]) (ws' := [(x, .inr (3, [.ref t1, .ref t2, .ref t3, .int (iI ((n : Int))), .int (iI ((o : Int)))])), cC G t1 60 T, cI G t2 30 F, cI G t3 30 R]) [0, 1, 2, 3] rfl rfl rfl (by decide) ?_
  refine z_callS (As := [.int (iI ((zch T n ((i + 1 : Nat) : Int))))]) (rest := []) (wc := []) (wr := [(x, .inr (3, [.ref t1, .ref t2, .ref t3, .int (iI ((n : Int))), .int (iI ((o : Int)))])), cC G t1 60 T, cI G t2 30 F, cI G t3 30 R]) (pc := 5) C dX3_numberAt_5 (k_X3_digit l G (zch T n ((i + 1 : Nat) : Int)) (zch_b hT n _)) gX3_numberAt_X3_digit ⟨⟨_, rfl⟩, ⟨rfl, rfl⟩, nyX3_digit, ⟨Nat.le_of_ble_eq_true rfl, Nat.le_of_ble_eq_true rfl⟩⟩ (fun h => h) rfl (Nat.le_of_ble_eq_true rfl) [] [0, 1, 2, 3] rfl rfl (by decide) (by decide) (by decide) ⟨Nat.le_of_ble_eq_true rfl, Nat.le_of_ble_eq_true rfl⟩ (fun v w hk => ?_)
  obtain ⟨rfl, rfl⟩ := hk
  refine z_fix (pc2 := 8) (st2 := [.int (iI ((zdg (zch T n ((i + 1 : Nat) : Int)))))]) (ws' := [(x, .inr (3, [.ref t1, .ref t2, .ref t3, .int (iI ((n : Int))), .int (iI ((o : Int)))])), cC G t1 60 T, cI G t2 30 F, cI G t3 30 R]) [0, 1, 2, 3] rfl rfl rfl (by decide) ?_
  refine z_istore_n (lv' := [(2, .int (iI ((zdg (zch T n ((i + 1 : Nat) : Int)))))), (0, .ref x), (1, .int (iI ((((i + 1) : Nat) : Int))))]) (pc := 8) C dX3_numberAt_8 (by decide) rfl ?_
  refine z_aload_n (pc := 9) C dX3_numberAt_9 1 rfl ?_
  refine z_iload_n (pc := 10) C dX3_numberAt_10 2 rfl ?_
  refine z_iconst (pc := 11) C dX3_numberAt_11 ?_
  refine z_iadd (pc := 12) C dX3_numberAt_12 ?_
  refine z_callV (As := [.int (iI (((((i + 1) : Nat) : Int) + 1)))]) (rest := []) (wc := [(x, .inr (3, [.ref t1, .ref t2, .ref t3, .int (iI ((n : Int))), .int (iI ((o : Int)))])), cC G t1 60 T, cI G t2 30 F, cI G t3 30 R]) (wr := []) (fs := [.ref t1, .ref t2, .ref t3, .int (iI ((n : Int))), .int (iI ((o : Int)))]) (pc := 13) C dX3_numberAt_13 (k_X3_characterAt l G x t1 t2 t3 T F R n o hT hn60 (((i + 1 : Nat) : Int) + 1) ⟨by omega, by omega⟩) gX3_numberAt_X3_characterAt ⟨⟨_, rfl⟩, ⟨rfl, rfl⟩, nyX3_characterAt, ⟨Nat.le_of_ble_eq_true rfl, Nat.le_of_ble_eq_true rfl⟩⟩ rfl zCl3 rfl (fun h => h) rfl (Nat.le_of_ble_eq_true rfl) [0, 1, 2, 3] [] rfl rfl (by decide) (by decide) (by decide) ⟨Nat.le_of_ble_eq_true rfl, Nat.le_of_ble_eq_true rfl⟩ (fun v w hk => ?_)
  obtain ⟨rfl, rfl⟩ := hk
  refine z_fix (pc2 := 16) (st2 := [.int (iI ((zch T n (((i + 1 : Nat) : Int) + 1))))]) (ws' := [(x, .inr (3, [.ref t1, .ref t2, .ref t3, .int (iI ((n : Int))), .int (iI ((o : Int)))])), cC G t1 60 T, cI G t2 30 F, cI G t3 30 R]) [0, 1, 2, 3] rfl rfl rfl (by decide) ?_
  refine z_callS (As := [.int (iI ((zch T n (((i + 1 : Nat) : Int) + 1))))]) (rest := []) (wc := []) (wr := [(x, .inr (3, [.ref t1, .ref t2, .ref t3, .int (iI ((n : Int))), .int (iI ((o : Int)))])), cC G t1 60 T, cI G t2 30 F, cI G t3 30 R]) (pc := 16) C dX3_numberAt_16 (k_X3_digit l G (zch T n (((i + 1 : Nat) : Int) + 1)) (zch_b hT n _)) gX3_numberAt_X3_digit ⟨⟨_, rfl⟩, ⟨rfl, rfl⟩, nyX3_digit, ⟨Nat.le_of_ble_eq_true rfl, Nat.le_of_ble_eq_true rfl⟩⟩ (fun h => h) rfl (Nat.le_of_ble_eq_true rfl) [] [0, 1, 2, 3] rfl rfl (by decide) (by decide) (by decide) ⟨Nat.le_of_ble_eq_true rfl, Nat.le_of_ble_eq_true rfl⟩ (fun v w hk => ?_)
  obtain ⟨rfl, rfl⟩ := hk
  refine z_fix (pc2 := 19) (st2 := [.int (iI ((zdg (zch T n (((i + 1 : Nat) : Int) + 1)))))]) (ws' := [(x, .inr (3, [.ref t1, .ref t2, .ref t3, .int (iI ((n : Int))), .int (iI ((o : Int)))])), cC G t1 60 T, cI G t2 30 F, cI G t3 30 R]) [0, 1, 2, 3] rfl rfl rfl (by decide) ?_
  refine z_istore_n (lv' := [(3, .int (iI ((zdg (zch T n (((i + 1 : Nat) : Int) + 1)))))), (2, .int (iI ((zdg (zch T n ((i + 1 : Nat) : Int)))))), (0, .ref x), (1, .int (iI ((((i + 1) : Nat) : Int))))]) (pc := 19) C dX3_numberAt_19 (by decide) rfl ?_
  have g1 := zdg_b (zch T n ((i + 1 : Nat) : Int))
  have g2 := zdg_b (zch T n (((i + 1 : Nat) : Int) + 1))
  have x1 : ((i + 1 : Nat) : Int) = (i : Int) + 1 := by omega
  have x2 : ((i + 1 : Nat) : Int) + 1 = (i : Int) + 2 := by omega
  refine z_iload_n (pc := 20) C dX3_numberAt_20 0 rfl ?_
  refine z_bipush (pc := 21) C dX3_numberAt_21 (by decide +kernel) ?_
  refine z_icmp_ne (tgt := 30) (pc := 23) C dX3_numberAt_23 (by decide) ⟨by omega, by omega⟩ (by decide) (fun c23 => ?_) (fun c23 => ?_)
  · refine z_iload_n (pc := 30) C dX3_numberAt_30 1 rfl ?_
    refine z_bipush (pc := 31) C dX3_numberAt_31 (by decide +kernel) ?_
    refine z_imul (pc := 33) C dX3_numberAt_33 ?_
    refine z_iload_n (pc := 34) C dX3_numberAt_34 0 rfl ?_
    refine z_iadd (pc := 35) C dX3_numberAt_35 ?_
    refine z_topi (y := (znum T n i)) (by rw [x2] at c23 ⊢; rw [x1]; unfold znum; rw [if_neg c23]) ?_
    exact z_iret (pc := 36) C R0 dX3_numberAt_36 (⟨rfl, rfl⟩)
  · refine z_iload_n (pc := 26) C dX3_numberAt_26 1 rfl ?_
    refine z_goto (tgt := 36) (pc := 27) C dX3_numberAt_27 (by decide) ?_
    refine z_topi (y := (znum T n i)) (by rw [x2] at c23; rw [x1]; unfold znum; rw [if_pos c23]) ?_
    exact z_iret (pc := 36) C R0 dX3_numberAt_36 (⟨rfl, rfl⟩)

set_option maxHeartbeats 4000000 in
set_option maxRecDepth 100000 in
theorem k_X3_widthOfItem (l : Launch) (G : ZG) (x t1 t2 t3 : Nat) (T F R : Nat → Int) (n o : Nat) (hT : ∀ i, 0 ≤ T i ∧ T i < 65536) (hn60 : n ≤ 60) (i : Nat) (hi : i < n) : Kt l G yX3_widthOfItem wsX3_widthOfItem { frames := 2, cells := 0, slots := 0, locals := 42 } 0 0 False [.ref x, .int (iI ((i : Int)))] [(x, .inr (3, [.ref t1, .ref t2, .ref t3, .int (iI ((n : Int))), .int (iI ((o : Int)))])), cC G t1 60 T, cI G t2 30 F, cI G t3 30 R] (fun v9 w9 => v9 = some (.int (iI ((((zwid T n i) : Nat) : Int)))) ∧ w9 = [(x, .inr (3, [.ref t1, .ref t2, .ref t3, .int (iI ((n : Int))), .int (iI ((o : Int)))])), cC G t1 60 T, cI G t2 30 F, cI G t3 30 R]) := by
  refine Kt.of (cc := cX3_widthOfItem) (nL := 3) (ret := (some .int)) (own := RX3) rfl (by decide +kernel) rfl (Nat.le_of_ble_eq_true rfl) ?_
  intro X Y C R0 hin
  show Z l X G Y 3 0 0 0 [(0, .ref x), (1, .int (iI ((i : Int))))] [] [(x, .inr (3, [.ref t1, .ref t2, .ref t3, .int (iI ((n : Int))), .int (iI ((o : Int)))])), cC G t1 60 T, cI G t2 30 F, cI G t3 30 R]
  refine z_aload_n (pc := 0) C dX3_widthOfItem_0 0 rfl ?_
  refine z_iload_n (pc := 1) C dX3_widthOfItem_1 1 rfl ?_
  refine z_callV (As := [.int (iI ((i : Int)))]) (rest := []) (wc := [(x, .inr (3, [.ref t1, .ref t2, .ref t3, .int (iI ((n : Int))), .int (iI ((o : Int)))])), cC G t1 60 T, cI G t2 30 F, cI G t3 30 R]) (wr := []) (fs := [.ref t1, .ref t2, .ref t3, .int (iI ((n : Int))), .int (iI ((o : Int)))]) (pc := 2) C dX3_widthOfItem_2 (k_X3_characterAt l G x t1 t2 t3 T F R n o hT hn60 (i : Int) ⟨by omega, by omega⟩) gX3_widthOfItem_X3_characterAt ⟨⟨_, rfl⟩, ⟨rfl, rfl⟩, nyX3_characterAt, ⟨Nat.le_of_ble_eq_true rfl, Nat.le_of_ble_eq_true rfl⟩⟩ rfl zCl3 rfl (fun h => h) rfl (Nat.le_of_ble_eq_true rfl) [0, 1, 2, 3] [] rfl rfl (by decide) (by decide) (by decide) ⟨Nat.le_of_ble_eq_true rfl, Nat.le_of_ble_eq_true rfl⟩ (fun v w hk => ?_)
  obtain ⟨rfl, rfl⟩ := hk
  refine z_fix (pc2 := 5) (st2 := [.int (iI ((zch T n (i : Int))))]) (ws' := [(x, .inr (3, [.ref t1, .ref t2, .ref t3, .int (iI ((n : Int))), .int (iI ((o : Int)))])), cC G t1 60 T, cI G t2 30 F, cI G t3 30 R]) [0, 1, 2, 3] rfl rfl rfl (by decide) ?_
  refine z_topi (y := (T i)) (zch_at hi) ?_
  refine z_callS (As := [.int (iI ((T i)))]) (rest := []) (wc := []) (wr := [(x, .inr (3, [.ref t1, .ref t2, .ref t3, .int (iI ((n : Int))), .int (iI ((o : Int)))])), cC G t1 60 T, cI G t2 30 F, cI G t3 30 R]) (pc := 5) C dX3_widthOfItem_5 (k_X3_isStretch l G (T i) (hT i)) gX3_widthOfItem_X3_isStretch ⟨⟨_, rfl⟩, ⟨rfl, rfl⟩, nyX3_isStretch, ⟨Nat.le_of_ble_eq_true rfl, Nat.le_of_ble_eq_true rfl⟩⟩ (fun h => h) rfl (Nat.le_of_ble_eq_true rfl) [] [0, 1, 2, 3] rfl rfl (by decide) (by decide) (by decide) ⟨Nat.le_of_ble_eq_true rfl, Nat.le_of_ble_eq_true rfl⟩ (fun v w hk => ?_)
  obtain ⟨r_5, h5_0, rfl, rfl⟩ := hk
  refine z_fix (pc2 := 8) (st2 := [.int (iI r_5)]) (ws' := [(x, .inr (3, [.ref t1, .ref t2, .ref t3, .int (iI ((n : Int))), .int (iI ((o : Int)))])), cC G t1 60 T, cI G t2 30 F, cI G t3 30 R]) [0, 1, 2, 3] rfl rfl rfl (by decide) ?_
  refine z_if_eq (tgt := 30) (pc := 8) C dX3_widthOfItem_8 (by decide) ⟨by omega, by omega⟩ (fun c8 => ?_) (fun c8 => ?_)
  · refine z_iconst (pc := 30) C dX3_widthOfItem_30 ?_
    refine z_istore_n (lv' := [(2, .int (iI 0)), (0, .ref x), (1, .int (iI ((i : Int))))]) (pc := 31) C dX3_widthOfItem_31 (by decide) rfl ?_
    refine z_iload_n (pc := 32) C dX3_widthOfItem_32 0 rfl ?_
    refine z_if_eq (tgt := 40) (pc := 33) C dX3_widthOfItem_33 (by decide) (by decide) (fun c33 => ?_) (fun c33 => ?_)
    · refine z_iconst (pc := 40) C dX3_widthOfItem_40 ?_
      refine z_topi (y := (((zwid T n i) : Nat) : Int)) (by rw [zwid_w (by omega)]; rfl) ?_
      exact z_iret (pc := 41) C R0 dX3_widthOfItem_41 (⟨rfl, rfl⟩)
    · exfalso; omega
  · refine z_aload_n (pc := 11) C dX3_widthOfItem_11 0 rfl ?_
    refine z_iload_n (pc := 12) C dX3_widthOfItem_12 1 rfl ?_
    refine z_iconst (pc := 13) C dX3_widthOfItem_13 ?_
    refine z_iadd (pc := 14) C dX3_widthOfItem_14 ?_
    refine z_callV (As := [.int (iI (((i : Int) + 2)))]) (rest := []) (wc := [(x, .inr (3, [.ref t1, .ref t2, .ref t3, .int (iI ((n : Int))), .int (iI ((o : Int)))])), cC G t1 60 T, cI G t2 30 F, cI G t3 30 R]) (wr := []) (fs := [.ref t1, .ref t2, .ref t3, .int (iI ((n : Int))), .int (iI ((o : Int)))]) (pc := 15) C dX3_widthOfItem_15 (k_X3_characterAt l G x t1 t2 t3 T F R n o hT hn60 ((i : Int) + 2) ⟨by omega, by omega⟩) gX3_widthOfItem_X3_characterAt ⟨⟨_, rfl⟩, ⟨rfl, rfl⟩, nyX3_characterAt, ⟨Nat.le_of_ble_eq_true rfl, Nat.le_of_ble_eq_true rfl⟩⟩ rfl zCl3 rfl (fun h => h) rfl (Nat.le_of_ble_eq_true rfl) [0, 1, 2, 3] [] rfl rfl (by decide) (by decide) (by decide) ⟨Nat.le_of_ble_eq_true rfl, Nat.le_of_ble_eq_true rfl⟩ (fun v w hk => ?_)
    obtain ⟨rfl, rfl⟩ := hk
    refine z_fix (pc2 := 18) (st2 := [.int (iI ((zch T n ((i : Int) + 2))))]) (ws' := [(x, .inr (3, [.ref t1, .ref t2, .ref t3, .int (iI ((n : Int))), .int (iI ((o : Int)))])), cC G t1 60 T, cI G t2 30 F, cI G t3 30 R]) [0, 1, 2, 3] rfl rfl rfl (by decide) ?_
    refine z_callS (As := [.int (iI ((zch T n ((i : Int) + 2))))]) (rest := []) (wc := []) (wr := [(x, .inr (3, [.ref t1, .ref t2, .ref t3, .int (iI ((n : Int))), .int (iI ((o : Int)))])), cC G t1 60 T, cI G t2 30 F, cI G t3 30 R]) (pc := 18) C dX3_widthOfItem_18 (k_X3_digit l G (zch T n ((i : Int) + 2)) (zch_b hT n _)) gX3_widthOfItem_X3_digit ⟨⟨_, rfl⟩, ⟨rfl, rfl⟩, nyX3_digit, ⟨Nat.le_of_ble_eq_true rfl, Nat.le_of_ble_eq_true rfl⟩⟩ (fun h => h) rfl (Nat.le_of_ble_eq_true rfl) [] [0, 1, 2, 3] rfl rfl (by decide) (by decide) (by decide) ⟨Nat.le_of_ble_eq_true rfl, Nat.le_of_ble_eq_true rfl⟩ (fun v w hk => ?_)
    obtain ⟨rfl, rfl⟩ := hk
    refine z_fix (pc2 := 21) (st2 := [.int (iI ((zdg (zch T n ((i : Int) + 2)))))]) (ws' := [(x, .inr (3, [.ref t1, .ref t2, .ref t3, .int (iI ((n : Int))), .int (iI ((o : Int)))])), cC G t1 60 T, cI G t2 30 F, cI G t3 30 R]) [0, 1, 2, 3] rfl rfl rfl (by decide) ?_
    have g1 := zdg_b (zch T n ((i : Int) + 2))
    refine z_bipush (pc := 21) C dX3_widthOfItem_21 (by decide +kernel) ?_
    refine z_icmp_eq (tgt := 30) (pc := 23) C dX3_widthOfItem_23 (by decide) ⟨by omega, by omega⟩ (by decide) (fun c23 => ?_) (fun c23 => ?_)
    · refine z_iconst (pc := 30) C dX3_widthOfItem_30 ?_
      refine z_istore_n (lv' := [(2, .int (iI 0)), (0, .ref x), (1, .int (iI ((i : Int))))]) (pc := 31) C dX3_widthOfItem_31 (by decide) rfl ?_
      refine z_iload_n (pc := 32) C dX3_widthOfItem_32 0 rfl ?_
      refine z_if_eq (tgt := 40) (pc := 33) C dX3_widthOfItem_33 (by decide) (by decide) (fun c33 => ?_) (fun c33 => ?_)
      · refine z_iconst (pc := 40) C dX3_widthOfItem_40 ?_
        refine z_topi (y := (((zwid T n i) : Nat) : Int)) (by rw [zwid_s (by omega), if_pos c23]; rfl) ?_
        exact z_iret (pc := 41) C R0 dX3_widthOfItem_41 (⟨rfl, rfl⟩)
      · exfalso; omega
    · refine z_iconst (pc := 26) C dX3_widthOfItem_26 ?_
      refine z_goto (tgt := 31) (pc := 27) C dX3_widthOfItem_27 (by decide) ?_
      refine z_istore_n (lv' := [(2, .int (iI 1)), (0, .ref x), (1, .int (iI ((i : Int))))]) (pc := 31) C dX3_widthOfItem_31 (by decide) rfl ?_
      refine z_iload_n (pc := 32) C dX3_widthOfItem_32 0 rfl ?_
      refine z_if_eq (tgt := 40) (pc := 33) C dX3_widthOfItem_33 (by decide) (by decide) (fun c33 => ?_) (fun c33 => ?_)
      · exfalso; omega
      · refine z_iconst (pc := 36) C dX3_widthOfItem_36 ?_
        refine z_goto (tgt := 41) (pc := 37) C dX3_widthOfItem_37 (by decide) ?_
        refine z_topi (y := (((zwid T n i) : Nat) : Int)) (by rw [zwid_s (by omega), if_neg c23]; rfl) ?_
        exact z_iret (pc := 41) C R0 dX3_widthOfItem_41 (⟨rfl, rfl⟩)

theorem ffX3_endRepeat_34 : zFF wsX3_endRepeat RX3 34 RX3 TX3 5 4 := ⟨by decide +kernel, by decide, by decide +kernel⟩
theorem ffX3_endRepeat_19 : zFF wsX3_endRepeat RX3 19 RX3 TX3 5 2 := ⟨by decide +kernel, by decide, by decide +kernel⟩
theorem ffX3_endRepeat_15 : zFF wsX3_endRepeat RX3 15 RX3 TX3 5 1 := ⟨by decide +kernel, by decide, by decide +kernel⟩
set_option maxHeartbeats 4000000 in
set_option maxRecDepth 100000 in
theorem k_X3_endRepeat_t (l : Launch) (G : ZG) (x t1 t2 t3 : Nat) (T F R : Nat → Int) (n o : Nat) (hT : ∀ i, 0 ≤ T i ∧ T i < 65536) (hn60 : n ≤ 60) (i : Nat) (hd : 0 < o) (hd2 : o ≤ 30) (hR : 1 ≤ R (o - 1) ∧ R (o - 1) ≤ 9) (hr : 0 < R (o - 1) - 1) : Kt l G yX3_endRepeat wsX3_endRepeat { frames := 0, cells := 0, slots := 0, locals := 0 } 0 0 False [.ref x, .int (iI ((i : Int)))] [(x, .inr (3, [.ref t1, .ref t2, .ref t3, .int (iI ((n : Int))), .int (iI ((o : Int)))])), cC G t1 60 T, cI G t2 30 F, cI G t3 30 R] (fun v9 w9 => v9 = some (.int (iI ((F (o - 1))))) ∧ w9 = [(x, .inr (3, [.ref t1, .ref t2, .ref t3, .int (iI ((n : Int))), .int (iI ((o : Int)))])), cC G t1 60 T, cI G t2 30 F, cI G t3 30 (zU R (o - 1) (R (o - 1) - 1))]) := by
  refine Kt.of (cc := cX3_endRepeat) (nL := 3) (ret := (some .int)) (own := RX3) rfl (by decide +kernel) rfl (Nat.le_of_ble_eq_true rfl) ?_
  intro X Y C R0 hin
  show Z l X G Y 3 0 0 0 [(0, .ref x), (1, .int (iI ((i : Int))))] [] [(x, .inr (3, [.ref t1, .ref t2, .ref t3, .int (iI ((n : Int))), .int (iI ((o : Int)))])), cC G t1 60 T, cI G t2 30 F, cI G t3 30 R]
  refine z_aload_n (pc := 0) C dX3_endRepeat_0 0 rfl ?_
  refine z_get (pc := 1) C dX3_endRepeat_1 zCl3 ffX3_endRepeat_34 0 rfl rfl ?_
  refine z_iconst (pc := 4) C dX3_endRepeat_4 ?_
  refine z_isub (pc := 5) C dX3_endRepeat_5 ?_
  refine z_istore_n (lv' := [(2, .int (iI (((o : Int) - 1)))), (0, .ref x), (1, .int (iI ((i : Int))))]) (pc := 6) C dX3_endRepeat_6 (by decide) rfl ?_
  refine z_iload_n (pc := 7) C dX3_endRepeat_7 0 rfl ?_
  refine z_if_lt (tgt := 17) (pc := 8) C dX3_endRepeat_8 (by decide) ⟨by omega, by omega⟩ (fun c8 => ?_) (fun c8 => ?_)
  · exfalso; omega
  · refine z_iload_n (pc := 11) C dX3_endRepeat_11 0 rfl ?_
    refine z_bipush (pc := 12) C dX3_endRepeat_12 (by decide +kernel) ?_
    refine z_icmp_lt (tgt := 20) (pc := 14) C dX3_endRepeat_14 (by decide) ⟨by omega, by omega⟩ (by decide) (fun c14 => ?_) (fun c14 => ?_)
    · refine z_aload_n (pc := 20) C dX3_endRepeat_20 1 rfl ?_
      refine z_get (pc := 21) C dX3_endRepeat_21 zCl3 ffX3_endRepeat_19 0 rfl rfl ?_
      refine z_iload_n (pc := 24) C dX3_endRepeat_24 0 rfl ?_
      refine z_dup2 (pc := 25) C dX3_endRepeat_25 rfl rfl ?_
      refine z_iald (pc := 26) C dX3_endRepeat_26 3 rfl ((o - 1)) (by omega) (by omega) (by decide) ?_
      refine z_iconst (pc := 27) C dX3_endRepeat_27 ?_
      refine z_isub (pc := 28) C dX3_endRepeat_28 ?_
      refine z_iast (ws' := [(x, .inr (3, [.ref t1, .ref t2, .ref t3, .int (iI ((n : Int))), .int (iI ((o : Int)))])), cC G t1 60 T, cI G t2 30 F, cI G t3 30 (zU R (o - 1) ((R (o - 1)) - 1))]) (pc := 29) C dX3_endRepeat_29 3 rfl ((o - 1)) (by omega) (by omega) (by decide) rfl ?_
      refine z_aload_n (pc := 30) C dX3_endRepeat_30 1 rfl ?_
      refine z_get (pc := 31) C dX3_endRepeat_31 zCl3 ffX3_endRepeat_19 0 rfl rfl ?_
      refine z_iload_n (pc := 34) C dX3_endRepeat_34 0 rfl ?_
      refine z_iald (pc := 35) C dX3_endRepeat_35 3 rfl ((o - 1)) (by omega) (by omega) (by decide) ?_
      refine z_topi (y := (R (o - 1) - 1)) (zU_s) ?_
      refine z_if_le (tgt := 46) (pc := 36) C dX3_endRepeat_36 (by decide) ⟨by omega, by omega⟩ (fun c36 => ?_) (fun c36 => ?_)
      · exfalso; omega
      · refine z_aload_n (pc := 39) C dX3_endRepeat_39 1 rfl ?_
        refine z_get (pc := 40) C dX3_endRepeat_40 zCl3 ffX3_endRepeat_15 0 rfl rfl ?_
        refine z_iload_n (pc := 43) C dX3_endRepeat_43 0 rfl ?_
        refine z_iald (pc := 44) C dX3_endRepeat_44 2 rfl ((o - 1)) (by omega) (by omega) (by decide) ?_
        exact z_iret (pc := 45) C R0 dX3_endRepeat_45 (⟨rfl, rfl⟩)
    · exfalso; omega

set_option maxHeartbeats 4000000 in
set_option maxRecDepth 100000 in
theorem k_X3_endRepeat_f (l : Launch) (G : ZG) (x t1 t2 t3 : Nat) (T F R : Nat → Int) (n o : Nat) (hT : ∀ i, 0 ≤ T i ∧ T i < 65536) (hn60 : n ≤ 60) (i : Nat) (hd : 0 < o) (hd2 : o ≤ 30) (hR : 1 ≤ R (o - 1) ∧ R (o - 1) ≤ 9) (hr : ¬ 0 < R (o - 1) - 1) : Kt l G yX3_endRepeat wsX3_endRepeat { frames := 0, cells := 0, slots := 0, locals := 0 } 0 0 False [.ref x, .int (iI ((i : Int)))] [(x, .inr (3, [.ref t1, .ref t2, .ref t3, .int (iI ((n : Int))), .int (iI ((o : Int)))])), cC G t1 60 T, cI G t2 30 F, cI G t3 30 R] (fun v9 w9 => v9 = some (.int (iI ((((i + 1) : Nat) : Int)))) ∧ w9 = [(x, .inr (3, [.ref t1, .ref t2, .ref t3, .int (iI ((n : Int))), .int (iI ((((o - 1) : Nat) : Int)))])), cC G t1 60 T, cI G t2 30 F, cI G t3 30 (zU R (o - 1) (R (o - 1) - 1))]) := by
  refine Kt.of (cc := cX3_endRepeat) (nL := 3) (ret := (some .int)) (own := RX3) rfl (by decide +kernel) rfl (Nat.le_of_ble_eq_true rfl) ?_
  intro X Y C R0 hin
  show Z l X G Y 3 0 0 0 [(0, .ref x), (1, .int (iI ((i : Int))))] [] [(x, .inr (3, [.ref t1, .ref t2, .ref t3, .int (iI ((n : Int))), .int (iI ((o : Int)))])), cC G t1 60 T, cI G t2 30 F, cI G t3 30 R]
  refine z_aload_n (pc := 0) C dX3_endRepeat_0 0 rfl ?_
  refine z_get (pc := 1) C dX3_endRepeat_1 zCl3 ffX3_endRepeat_34 0 rfl rfl ?_
  refine z_iconst (pc := 4) C dX3_endRepeat_4 ?_
  refine z_isub (pc := 5) C dX3_endRepeat_5 ?_
  refine z_istore_n (lv' := [(2, .int (iI (((o : Int) - 1)))), (0, .ref x), (1, .int (iI ((i : Int))))]) (pc := 6) C dX3_endRepeat_6 (by decide) rfl ?_
  refine z_iload_n (pc := 7) C dX3_endRepeat_7 0 rfl ?_
  refine z_if_lt (tgt := 17) (pc := 8) C dX3_endRepeat_8 (by decide) ⟨by omega, by omega⟩ (fun c8 => ?_) (fun c8 => ?_)
  · exfalso; omega
  · refine z_iload_n (pc := 11) C dX3_endRepeat_11 0 rfl ?_
    refine z_bipush (pc := 12) C dX3_endRepeat_12 (by decide +kernel) ?_
    refine z_icmp_lt (tgt := 20) (pc := 14) C dX3_endRepeat_14 (by decide) ⟨by omega, by omega⟩ (by decide) (fun c14 => ?_) (fun c14 => ?_)
    · refine z_aload_n (pc := 20) C dX3_endRepeat_20 1 rfl ?_
      refine z_get (pc := 21) C dX3_endRepeat_21 zCl3 ffX3_endRepeat_19 0 rfl rfl ?_
      refine z_iload_n (pc := 24) C dX3_endRepeat_24 0 rfl ?_
      refine z_dup2 (pc := 25) C dX3_endRepeat_25 rfl rfl ?_
      refine z_iald (pc := 26) C dX3_endRepeat_26 3 rfl ((o - 1)) (by omega) (by omega) (by decide) ?_
      refine z_iconst (pc := 27) C dX3_endRepeat_27 ?_
      refine z_isub (pc := 28) C dX3_endRepeat_28 ?_
      refine z_iast (ws' := [(x, .inr (3, [.ref t1, .ref t2, .ref t3, .int (iI ((n : Int))), .int (iI ((o : Int)))])), cC G t1 60 T, cI G t2 30 F, cI G t3 30 (zU R (o - 1) ((R (o - 1)) - 1))]) (pc := 29) C dX3_endRepeat_29 3 rfl ((o - 1)) (by omega) (by omega) (by decide) rfl ?_
      refine z_aload_n (pc := 30) C dX3_endRepeat_30 1 rfl ?_
      refine z_get (pc := 31) C dX3_endRepeat_31 zCl3 ffX3_endRepeat_19 0 rfl rfl ?_
      refine z_iload_n (pc := 34) C dX3_endRepeat_34 0 rfl ?_
      refine z_iald (pc := 35) C dX3_endRepeat_35 3 rfl ((o - 1)) (by omega) (by omega) (by decide) ?_
      refine z_topi (y := (R (o - 1) - 1)) (zU_s) ?_
      refine z_if_le (tgt := 46) (pc := 36) C dX3_endRepeat_36 (by decide) ⟨by omega, by omega⟩ (fun c36 => ?_) (fun c36 => ?_)
      · refine z_aload_n (pc := 46) C dX3_endRepeat_46 1 rfl ?_
        refine z_iload_n (pc := 47) C dX3_endRepeat_47 0 rfl ?_
        refine z_topi (y := (((o - 1) : Nat) : Int)) (by omega) ?_
        refine z_put (ty := .int) (ws' := [(x, .inr (3, [.ref t1, .ref t2, .ref t3, .int (iI ((n : Int))), .int (iI ((((o - 1) : Nat) : Int)))])), cC G t1 60 T, cI G t2 30 F, cI G t3 30 (zU R (o - 1) ((R (o - 1)) - 1))]) (pc := 48) C dX3_endRepeat_48 zCl3 ffX3_endRepeat_34 0 rfl rfl rfl rfl rfl (Nat.le_of_ble_eq_true rfl) rfl ?_
        refine z_iload_n (pc := 51) C dX3_endRepeat_51 2 rfl ?_
        refine z_iconst (pc := 52) C dX3_endRepeat_52 ?_
        refine z_iadd (pc := 53) C dX3_endRepeat_53 ?_
        exact z_iret (pc := 54) C R0 dX3_endRepeat_54 (⟨rfl, rfl⟩)
      · exfalso; omega
    · exfalso; omega

theorem ffX3_beginRepeat_34 : zFF wsX3_beginRepeat RX3 34 RX3 TX3 5 4 := ⟨by decide +kernel, by decide, by decide +kernel⟩
theorem ffX3_beginRepeat_15 : zFF wsX3_beginRepeat RX3 15 RX3 TX3 5 1 := ⟨by decide +kernel, by decide, by decide +kernel⟩
theorem ffX3_beginRepeat_19 : zFF wsX3_beginRepeat RX3 19 RX3 TX3 5 2 := ⟨by decide +kernel, by decide, by decide +kernel⟩
set_option maxHeartbeats 4000000 in
set_option maxRecDepth 100000 in
theorem k_X3_beginRepeat (l : Launch) (G : ZG) (x t1 t2 t3 : Nat) (T F R : Nat → Int) (n o : Nat) (hT : ∀ i, 0 ≤ T i ∧ T i < 65536) (hn60 : n ≤ 60) (i : Nat) (v : Int) (hd : o < 30) : Kt l G yX3_beginRepeat wsX3_beginRepeat { frames := 0, cells := 0, slots := 0, locals := 0 } 0 0 False [.ref x, .int (iI ((i : Int))), .int (iI v)] [(x, .inr (3, [.ref t1, .ref t2, .ref t3, .int (iI ((n : Int))), .int (iI ((o : Int)))])), cC G t1 60 T, cI G t2 30 F, cI G t3 30 R] (fun v9 w9 => v9 = some (.int (iI ((i : Int)))) ∧ w9 = [(x, .inr (3, [.ref t1, .ref t2, .ref t3, .int (iI ((n : Int))), .int (iI ((((o + 1) : Nat) : Int)))])), cC G t1 60 T, cI G t2 30 (zU F o ((i : Nat) : Int)), cI G t3 30 (zU R o v)]) := by
  refine Kt.of (cc := cX3_beginRepeat) (nL := 3) (ret := (some .int)) (own := RX3) rfl (by decide +kernel) rfl (Nat.le_of_ble_eq_true rfl) ?_
  intro X Y C R0 hin
  show Z l X G Y 3 0 0 0 [(0, .ref x), (1, .int (iI ((i : Int)))), (2, .int (iI v))] [] [(x, .inr (3, [.ref t1, .ref t2, .ref t3, .int (iI ((n : Int))), .int (iI ((o : Int)))])), cC G t1 60 T, cI G t2 30 F, cI G t3 30 R]
  refine z_aload_n (pc := 0) C dX3_beginRepeat_0 0 rfl ?_
  refine z_get (pc := 1) C dX3_beginRepeat_1 zCl3 ffX3_beginRepeat_34 0 rfl rfl ?_
  refine z_if_lt (tgt := 16) (pc := 4) C dX3_beginRepeat_4 (by decide) ⟨by omega, by omega⟩ (fun c4 => ?_) (fun c4 => ?_)
  · exfalso; omega
  · refine z_aload_n (pc := 7) C dX3_beginRepeat_7 0 rfl ?_
    refine z_get (pc := 8) C dX3_beginRepeat_8 zCl3 ffX3_beginRepeat_34 0 rfl rfl ?_
    refine z_bipush (pc := 11) C dX3_beginRepeat_11 (by decide +kernel) ?_
    refine z_icmp_lt (tgt := 19) (pc := 13) C dX3_beginRepeat_13 (by decide) ⟨by omega, by omega⟩ (by decide) (fun c13 => ?_) (fun c13 => ?_)
    · refine z_aload_n (pc := 19) C dX3_beginRepeat_19 0 rfl ?_
      refine z_get (pc := 20) C dX3_beginRepeat_20 zCl3 ffX3_beginRepeat_15 0 rfl rfl ?_
      refine z_aload_n (pc := 23) C dX3_beginRepeat_23 0 rfl ?_
      refine z_get (pc := 24) C dX3_beginRepeat_24 zCl3 ffX3_beginRepeat_34 0 rfl rfl ?_
      refine z_iload_n (pc := 27) C dX3_beginRepeat_27 1 rfl ?_
      refine z_iast (ws' := [(x, .inr (3, [.ref t1, .ref t2, .ref t3, .int (iI ((n : Int))), .int (iI ((o : Int)))])), cC G t1 60 T, cI G t2 30 (zU F o (i : Int)), cI G t3 30 R]) (pc := 28) C dX3_beginRepeat_28 2 rfl (o) (by omega) (by omega) (by decide) rfl ?_
      refine z_aload_n (pc := 29) C dX3_beginRepeat_29 0 rfl ?_
      refine z_get (pc := 30) C dX3_beginRepeat_30 zCl3 ffX3_beginRepeat_19 0 rfl rfl ?_
      refine z_aload_n (pc := 33) C dX3_beginRepeat_33 0 rfl ?_
      refine z_get (pc := 34) C dX3_beginRepeat_34 zCl3 ffX3_beginRepeat_34 0 rfl rfl ?_
      refine z_iload_n (pc := 37) C dX3_beginRepeat_37 2 rfl ?_
      refine z_iast (ws' := [(x, .inr (3, [.ref t1, .ref t2, .ref t3, .int (iI ((n : Int))), .int (iI ((o : Int)))])), cC G t1 60 T, cI G t2 30 (zU F o (i : Int)), cI G t3 30 (zU R o v)]) (pc := 38) C dX3_beginRepeat_38 3 rfl (o) (by omega) (by omega) (by decide) rfl ?_
      refine z_aload_n (pc := 39) C dX3_beginRepeat_39 0 rfl ?_
      refine z_dup (pc := 40) C dX3_beginRepeat_40 rfl ?_
      refine z_get (pc := 41) C dX3_beginRepeat_41 zCl3 ffX3_beginRepeat_34 0 rfl rfl ?_
      refine z_iconst (pc := 44) C dX3_beginRepeat_44 ?_
      refine z_iadd (pc := 45) C dX3_beginRepeat_45 ?_
      refine z_topi (y := (((o + 1) : Nat) : Int)) (by omega) ?_
      refine z_put (ty := .int) (ws' := [(x, .inr (3, [.ref t1, .ref t2, .ref t3, .int (iI ((n : Int))), .int (iI ((((o + 1) : Nat) : Int)))])), cC G t1 60 T, cI G t2 30 (zU F o (i : Int)), cI G t3 30 (zU R o v)]) (pc := 46) C dX3_beginRepeat_46 zCl3 ffX3_beginRepeat_34 0 rfl rfl rfl rfl rfl (Nat.le_of_ble_eq_true rfl) rfl ?_
      refine z_iload_n (pc := 49) C dX3_beginRepeat_49 1 rfl ?_
      exact z_iret (pc := 50) C R0 dX3_beginRepeat_50 (⟨rfl, rfl⟩)
    · exfalso; omega

theorem nyX2_addWord : yX2_addWord.cls ≠ "java/lang/invoke/MethodHandle" ∧ yX2_addWord.cls ≠ "java/lang/invoke/VarHandle" ∧ (parseMethodDescriptor yX2_addWord.desc).map (fun d => d.parameters.length) = some 1 := by decide +kernel
theorem nyX3_widthOfItem : yX3_widthOfItem.cls ≠ "java/lang/invoke/MethodHandle" ∧ yX3_widthOfItem.cls ≠ "java/lang/invoke/VarHandle" ∧ (parseMethodDescriptor yX3_widthOfItem.desc).map (fun d => d.parameters.length) = some 1 := by decide +kernel
theorem nyX3_numberAt : yX3_numberAt.cls ≠ "java/lang/invoke/MethodHandle" ∧ yX3_numberAt.cls ≠ "java/lang/invoke/VarHandle" ∧ (parseMethodDescriptor yX3_numberAt.desc).map (fun d => d.parameters.length) = some 1 := by decide +kernel
theorem nyX2_addStretch : yX2_addStretch.cls ≠ "java/lang/invoke/MethodHandle" ∧ yX2_addStretch.cls ≠ "java/lang/invoke/VarHandle" ∧ (parseMethodDescriptor yX2_addStretch.desc).map (fun d => d.parameters.length) = some 2 := by decide +kernel
set_option maxHeartbeats 4000000 in
set_option maxRecDepth 100000 in
theorem k_X3_sendItem_t (l : Launch) (G : ZG) (h a1 a2 a3 : Nat) (b : Nat → Bool) (W S : Nat → Int) (e k : Nat) (hI : zI b W S e k) (x t1 t2 t3 : Nat) (T F R : Nat → Int) (n o : Nat) (hT : ∀ i, 0 ≤ T i ∧ T i < 65536) (hn60 : n ≤ 60) (i : Nat) (s : ZT) (hi : i + 1 < n) (hnb : (T i = 46 ∨ T i = 95) → 1 ≤ znum T n i ∧ znum T n i ≤ 99) (hwb : ¬ (T i = 46 ∨ T i = 95) → 0 ≤ zdg (T i) * 16 + zdg (zch T n ((i : Int) + 1)) ∧ zdg (T i) * 16 + zdg (zch T n ((i : Int) + 1)) ≤ 255) (hs : zitm S T n i (b, W, e, k) = some s) : Kt l G yX3_sendItem wsX3_sendItem { frames := 4, cells := 0, slots := 0, locals := 91 } 0 0 False [.ref x, .int (iI ((i : Int))), .ref h] [(x, .inr (3, [.ref t1, .ref t2, .ref t3, .int (iI ((n : Int))), .int (iI ((o : Int)))])), cC G t1 60 T, cI G t2 30 F, cI G t3 30 R, (h, .inr (2, [.ref a1, .ref a2, .ref a3, .int (iI ((e : Int))), .int (iI ((k : Int)))])), cL G a1 24 (zrw b), cI G a2 37 W, cI G a3 5 S] (fun v9 w9 => v9 = some (.int (iI ((((i + zwid T n i) : Nat) : Int)))) ∧ w9 = [(x, .inr (3, [.ref t1, .ref t2, .ref t3, .int (iI ((n : Int))), .int (iI ((o : Int)))])), cC G t1 60 T, cI G t2 30 F, cI G t3 30 R, (h, .inr (2, [.ref a1, .ref a2, .ref a3, .int (iI (((s.2.2.1 : Nat) : Int))), .int (iI (((s.2.2.2 : Nat) : Int)))])), cL G a1 24 (zrw s.1), cI G a2 37 s.2.1, cI G a3 5 S]) := by
  refine Kt.of (cc := cX3_sendItem) (nL := 5) (ret := (some .int)) (own := RX3) rfl (by decide +kernel) rfl (Nat.le_of_ble_eq_true rfl) ?_
  intro X Y C R0 hin
  show Z l X G Y 5 0 0 0 [(0, .ref x), (1, .int (iI ((i : Int)))), (2, .ref h)] [] [(x, .inr (3, [.ref t1, .ref t2, .ref t3, .int (iI ((n : Int))), .int (iI ((o : Int)))])), cC G t1 60 T, cI G t2 30 F, cI G t3 30 R, (h, .inr (2, [.ref a1, .ref a2, .ref a3, .int (iI ((e : Int))), .int (iI ((k : Int)))])), cL G a1 24 (zrw b), cI G a2 37 W, cI G a3 5 S]
  obtain ⟨he, hk, hb, s0, s1, s2, s3, s4, hw⟩ := id hI
  refine z_aload_n (pc := 0) C dX3_sendItem_0 0 rfl ?_
  refine z_iload_n (pc := 1) C dX3_sendItem_1 1 rfl ?_
  refine z_callV (As := [.int (iI ((i : Int)))]) (rest := []) (wc := [(x, .inr (3, [.ref t1, .ref t2, .ref t3, .int (iI ((n : Int))), .int (iI ((o : Int)))])), cC G t1 60 T, cI G t2 30 F, cI G t3 30 R]) (wr := [(h, .inr (2, [.ref a1, .ref a2, .ref a3, .int (iI ((e : Int))), .int (iI ((k : Int)))])), cL G a1 24 (zrw b), cI G a2 37 W, cI G a3 5 S]) (fs := [.ref t1, .ref t2, .ref t3, .int (iI ((n : Int))), .int (iI ((o : Int)))]) (pc := 2) C dX3_sendItem_2 (k_X3_characterAt l G x t1 t2 t3 T F R n o hT hn60 (i : Int) ⟨by omega, by omega⟩) gX3_sendItem_X3_characterAt ⟨⟨_, rfl⟩, ⟨rfl, rfl⟩, nyX3_characterAt, ⟨Nat.le_of_ble_eq_true rfl, Nat.le_of_ble_eq_true rfl⟩⟩ rfl zCl3 rfl (fun h => h) rfl (Nat.le_of_ble_eq_true rfl) [0, 1, 2, 3] [4, 5, 6, 7] rfl rfl (by decide) (by decide) (by decide) ⟨Nat.le_of_ble_eq_true rfl, Nat.le_of_ble_eq_true rfl⟩ (fun v w hk => ?_)
  obtain ⟨rfl, rfl⟩ := hk
  refine z_fix (pc2 := 5) (st2 := [.int (iI ((zch T n (i : Int))))]) (ws' := [(x, .inr (3, [.ref t1, .ref t2, .ref t3, .int (iI ((n : Int))), .int (iI ((o : Int)))])), cC G t1 60 T, cI G t2 30 F, cI G t3 30 R, (h, .inr (2, [.ref a1, .ref a2, .ref a3, .int (iI ((e : Int))), .int (iI ((k : Int)))])), cL G a1 24 (zrw b), cI G a2 37 W, cI G a3 5 S]) [4, 5, 6, 7, 0, 1, 2, 3] rfl rfl rfl (by decide) ?_
  have hTi := hT i
  refine z_topi (y := (T i)) (zch_at (by omega)) ?_
  refine z_istore_n (lv' := [(3, .int (iI ((T i)))), (0, .ref x), (1, .int (iI ((i : Int)))), (2, .ref h)]) (pc := 5) C dX3_sendItem_5 (by decide) rfl ?_
  refine z_iload_n (pc := 6) C dX3_sendItem_6 0 rfl ?_
  refine z_callS (As := [.int (iI ((T i)))]) (rest := []) (wc := []) (wr := [(x, .inr (3, [.ref t1, .ref t2, .ref t3, .int (iI ((n : Int))), .int (iI ((o : Int)))])), cC G t1 60 T, cI G t2 30 F, cI G t3 30 R, (h, .inr (2, [.ref a1, .ref a2, .ref a3, .int (iI ((e : Int))), .int (iI ((k : Int)))])), cL G a1 24 (zrw b), cI G a2 37 W, cI G a3 5 S]) (pc := 7) C dX3_sendItem_7 (k_X3_isStretch l G (T i) hTi) gX3_sendItem_X3_isStretch ⟨⟨_, rfl⟩, ⟨rfl, rfl⟩, nyX3_isStretch, ⟨Nat.le_of_ble_eq_true rfl, Nat.le_of_ble_eq_true rfl⟩⟩ (fun h => h) rfl (Nat.le_of_ble_eq_true rfl) [] [0, 1, 2, 3, 4, 5, 6, 7] rfl rfl (by decide) (by decide) (by decide) ⟨Nat.le_of_ble_eq_true rfl, Nat.le_of_ble_eq_true rfl⟩ (fun v w hk => ?_)
  obtain ⟨r_7, h7_0, rfl, rfl⟩ := hk
  refine z_fix (pc2 := 10) (st2 := [.int (iI r_7)]) (ws' := [(x, .inr (3, [.ref t1, .ref t2, .ref t3, .int (iI ((n : Int))), .int (iI ((o : Int)))])), cC G t1 60 T, cI G t2 30 F, cI G t3 30 R, (h, .inr (2, [.ref a1, .ref a2, .ref a3, .int (iI ((e : Int))), .int (iI ((k : Int)))])), cL G a1 24 (zrw b), cI G a2 37 W, cI G a3 5 S]) [0, 1, 2, 3, 4, 5, 6, 7] rfl rfl rfl (by decide) ?_
  refine z_if_eq (tgt := 38) (pc := 10) C dX3_sendItem_10 (by decide) ⟨by omega, by omega⟩ (fun c10 => ?_) (fun c10 => ?_)
  · have hss : ¬ (T i = 46 ∨ T i = 95) := by omega
    have hwb2 := hwb hss
    have hs2 := hs
    unfold zitm at hs2
    rw [if_neg hss] at hs2
    have hroom : ztk S ≤ 1500 - (e : Int) := Classical.byContradiction fun q => by rw [if_neg q] at hs2; cases hs2
    rw [if_pos hroom] at hs2
    replace hs2 := Option.some.inj hs2
    refine z_aload_n (pc := 38) C dX3_sendItem_38 3 rfl ?_
    refine z_iload_n (pc := 39) C dX3_sendItem_39 0 rfl ?_
    refine z_callS (As := [.int (iI ((T i)))]) (rest := [.ref h]) (wc := []) (wr := [(x, .inr (3, [.ref t1, .ref t2, .ref t3, .int (iI ((n : Int))), .int (iI ((o : Int)))])), cC G t1 60 T, cI G t2 30 F, cI G t3 30 R, (h, .inr (2, [.ref a1, .ref a2, .ref a3, .int (iI ((e : Int))), .int (iI ((k : Int)))])), cL G a1 24 (zrw b), cI G a2 37 W, cI G a3 5 S]) (pc := 40) C dX3_sendItem_40 (k_X3_digit l G (T i) hTi) gX3_sendItem_X3_digit ⟨⟨_, rfl⟩, ⟨rfl, rfl⟩, nyX3_digit, ⟨Nat.le_of_ble_eq_true rfl, Nat.le_of_ble_eq_true rfl⟩⟩ (fun h => h) rfl (Nat.le_of_ble_eq_true rfl) [] [0, 1, 2, 3, 4, 5, 6, 7] rfl rfl (by decide) (by decide) (by decide) ⟨Nat.le_of_ble_eq_true rfl, Nat.le_of_ble_eq_true rfl⟩ (fun v w hk => ?_)
    obtain ⟨rfl, rfl⟩ := hk
    refine z_fix (pc2 := 43) (st2 := [.int (iI ((zdg (T i)))), .ref h]) (ws' := [(x, .inr (3, [.ref t1, .ref t2, .ref t3, .int (iI ((n : Int))), .int (iI ((o : Int)))])), cC G t1 60 T, cI G t2 30 F, cI G t3 30 R, (h, .inr (2, [.ref a1, .ref a2, .ref a3, .int (iI ((e : Int))), .int (iI ((k : Int)))])), cL G a1 24 (zrw b), cI G a2 37 W, cI G a3 5 S]) [0, 1, 2, 3, 4, 5, 6, 7] rfl rfl rfl (by decide) ?_
    refine z_bipush (pc := 43) C dX3_sendItem_43 (by decide +kernel) ?_
    refine z_imul (pc := 45) C dX3_sendItem_45 ?_
    refine z_aload_n (pc := 46) C dX3_sendItem_46 1 rfl ?_
    refine z_iload_n (pc := 47) C dX3_sendItem_47 2 rfl ?_
    refine z_iconst (pc := 48) C dX3_sendItem_48 ?_
    refine z_iadd (pc := 49) C dX3_sendItem_49 ?_
    refine z_callV (As := [.int (iI (((i : Int) + 1)))]) (rest := [.int (iI (((zdg (T i)) * 16))), .ref h]) (wc := [(x, .inr (3, [.ref t1, .ref t2, .ref t3, .int (iI ((n : Int))), .int (iI ((o : Int)))])), cC G t1 60 T, cI G t2 30 F, cI G t3 30 R]) (wr := [(h, .inr (2, [.ref a1, .ref a2, .ref a3, .int (iI ((e : Int))), .int (iI ((k : Int)))])), cL G a1 24 (zrw b), cI G a2 37 W, cI G a3 5 S]) (fs := [.ref t1, .ref t2, .ref t3, .int (iI ((n : Int))), .int (iI ((o : Int)))]) (pc := 50) C dX3_sendItem_50 (k_X3_characterAt l G x t1 t2 t3 T F R n o hT hn60 ((i : Int) + 1) ⟨by omega, by omega⟩) gX3_sendItem_X3_characterAt ⟨⟨_, rfl⟩, ⟨rfl, rfl⟩, nyX3_characterAt, ⟨Nat.le_of_ble_eq_true rfl, Nat.le_of_ble_eq_true rfl⟩⟩ rfl zCl3 rfl (fun h => h) rfl (Nat.le_of_ble_eq_true rfl) [0, 1, 2, 3] [4, 5, 6, 7] rfl rfl (by decide) (by decide) (by decide) ⟨Nat.le_of_ble_eq_true rfl, Nat.le_of_ble_eq_true rfl⟩ (fun v w hk => ?_)
    obtain ⟨rfl, rfl⟩ := hk
    refine z_fix (pc2 := 53) (st2 := [.int (iI ((zch T n ((i : Int) + 1)))), .int (iI (((zdg (T i)) * 16))), .ref h]) (ws' := [(x, .inr (3, [.ref t1, .ref t2, .ref t3, .int (iI ((n : Int))), .int (iI ((o : Int)))])), cC G t1 60 T, cI G t2 30 F, cI G t3 30 R, (h, .inr (2, [.ref a1, .ref a2, .ref a3, .int (iI ((e : Int))), .int (iI ((k : Int)))])), cL G a1 24 (zrw b), cI G a2 37 W, cI G a3 5 S]) [4, 5, 6, 7, 0, 1, 2, 3] rfl rfl rfl (by decide) ?_
    refine z_callS (As := [.int (iI ((zch T n ((i : Int) + 1))))]) (rest := [.int (iI (((zdg (T i)) * 16))), .ref h]) (wc := []) (wr := [(x, .inr (3, [.ref t1, .ref t2, .ref t3, .int (iI ((n : Int))), .int (iI ((o : Int)))])), cC G t1 60 T, cI G t2 30 F, cI G t3 30 R, (h, .inr (2, [.ref a1, .ref a2, .ref a3, .int (iI ((e : Int))), .int (iI ((k : Int)))])), cL G a1 24 (zrw b), cI G a2 37 W, cI G a3 5 S]) (pc := 53) C dX3_sendItem_53 (k_X3_digit l G (zch T n ((i : Int) + 1)) (zch_b hT n _)) gX3_sendItem_X3_digit ⟨⟨_, rfl⟩, ⟨rfl, rfl⟩, nyX3_digit, ⟨Nat.le_of_ble_eq_true rfl, Nat.le_of_ble_eq_true rfl⟩⟩ (fun h => h) rfl (Nat.le_of_ble_eq_true rfl) [] [0, 1, 2, 3, 4, 5, 6, 7] rfl rfl (by decide) (by decide) (by decide) ⟨Nat.le_of_ble_eq_true rfl, Nat.le_of_ble_eq_true rfl⟩ (fun v w hk => ?_)
    obtain ⟨rfl, rfl⟩ := hk
    refine z_fix (pc2 := 56) (st2 := [.int (iI ((zdg (zch T n ((i : Int) + 1))))), .int (iI (((zdg (T i)) * 16))), .ref h]) (ws' := [(x, .inr (3, [.ref t1, .ref t2, .ref t3, .int (iI ((n : Int))), .int (iI ((o : Int)))])), cC G t1 60 T, cI G t2 30 F, cI G t3 30 R, (h, .inr (2, [.ref a1, .ref a2, .ref a3, .int (iI ((e : Int))), .int (iI ((k : Int)))])), cL G a1 24 (zrw b), cI G a2 37 W, cI G a3 5 S]) [0, 1, 2, 3, 4, 5, 6, 7] rfl rfl rfl (by decide) ?_
    refine z_iadd (pc := 56) C dX3_sendItem_56 ?_
    refine z_topi (y := ((((zdg (T i) * 16 + zdg (zch T n ((i : Int) + 1))).toNat) : Nat) : Int)) ((Int.toNat_of_nonneg hwb2.1).symm) ?_
    refine z_callV (As := [.int (iI (((((zdg (T i) * 16 + zdg (zch T n ((i : Int) + 1))).toNat) : Nat) : Int)))]) (rest := []) (wc := [(h, .inr (2, [.ref a1, .ref a2, .ref a3, .int (iI ((e : Int))), .int (iI ((k : Int)))])), cL G a1 24 (zrw b), cI G a2 37 W, cI G a3 5 S]) (wr := [(x, .inr (3, [.ref t1, .ref t2, .ref t3, .int (iI ((n : Int))), .int (iI ((o : Int)))])), cC G t1 60 T, cI G t2 30 F, cI G t3 30 R]) (fs := [.ref a1, .ref a2, .ref a3, .int (iI ((e : Int))), .int (iI ((k : Int)))]) (pc := 57) C dX3_sendItem_57 (k_X2_addWord_t l G h a1 a2 a3 b W S e k hI ((zdg (T i) * 16 + zdg (zch T n ((i : Int) + 1))).toNat) (by omega) hroom) gX3_sendItem_X2_addWord ⟨⟨_, rfl⟩, ⟨rfl, rfl⟩, nyX2_addWord, ⟨Nat.le_of_ble_eq_true rfl, Nat.le_of_ble_eq_true rfl⟩⟩ rfl zCl2 rfl (fun h => h) rfl (Nat.le_of_ble_eq_true rfl) [4, 5, 6, 7] [0, 1, 2, 3] rfl rfl (by decide) (by decide) (by decide) ⟨Nat.le_of_ble_eq_true rfl, Nat.le_of_ble_eq_true rfl⟩ (fun v w hk => ?_)
    obtain ⟨rfl, rfl⟩ := hk
    refine z_fix (pc2 := 60) (st2 := [.int (iI 1)]) (ws' := [(x, .inr (3, [.ref t1, .ref t2, .ref t3, .int (iI ((n : Int))), .int (iI ((o : Int)))])), cC G t1 60 T, cI G t2 30 F, cI G t3 30 R, (h, .inr (2, [.ref a1, .ref a2, .ref a3, .int (iI ((((e + (ztk S).toNat) : Nat) : Int))), .int (iI ((((k + 1) : Nat) : Int)))])), cL G a1 24 (zrw (zaw b S e ((zdg (T i) * 16 + zdg (zch T n ((i : Int) + 1))).toNat) (zbn S).toNat)), cI G a2 37 (zU W k (((zdg (T i) * 16 + zdg (zch T n ((i : Int) + 1))).toNat) : Int)), cI G a3 5 S]) [0, 1, 2, 3, 4, 5, 6, 7] rfl rfl rfl (by decide) ?_
    refine z_ws (ws' := [(x, .inr (3, [.ref t1, .ref t2, .ref t3, .int (iI ((n : Int))), .int (iI ((o : Int)))])), cC G t1 60 T, cI G t2 30 F, cI G t3 30 R, (h, .inr (2, [.ref a1, .ref a2, .ref a3, .int (iI (((s.2.2.1 : Nat) : Int))), .int (iI (((s.2.2.2 : Nat) : Int)))])), cL G a1 24 (zrw s.1), cI G a2 37 s.2.1, cI G a3 5 S]) [0, 1, 2, 3, 4, 5, 6, 7] (by rw [← hs2, Int.toNat_of_nonneg hwb2.1]; rfl) (by decide) ?_
    refine z_istore (lv' := [(4, .int (iI 1)), (3, .int (iI ((T i)))), (0, .ref x), (1, .int (iI ((i : Int)))), (2, .ref h)]) (pc := 60) C dX3_sendItem_60 (by decide) rfl ?_
    refine z_iload (pc := 62) C dX3_sendItem_62 0 rfl ?_
    refine z_if_eq (tgt := 77) (pc := 64) C dX3_sendItem_64 (by decide) (by decide) (fun c64 => ?_) (fun c64 => ?_)
    · exfalso; omega
    · refine z_iload_n (pc := 67) C dX3_sendItem_67 3 rfl ?_
      refine z_aload_n (pc := 68) C dX3_sendItem_68 2 rfl ?_
      refine z_iload_n (pc := 69) C dX3_sendItem_69 3 rfl ?_
      refine z_callV (As := [.int (iI ((i : Int)))]) (rest := [.int (iI ((i : Int)))]) (wc := [(x, .inr (3, [.ref t1, .ref t2, .ref t3, .int (iI ((n : Int))), .int (iI ((o : Int)))])), cC G t1 60 T, cI G t2 30 F, cI G t3 30 R]) (wr := [(h, .inr (2, [.ref a1, .ref a2, .ref a3, .int (iI (((s.2.2.1 : Nat) : Int))), .int (iI (((s.2.2.2 : Nat) : Int)))])), cL G a1 24 (zrw s.1), cI G a2 37 s.2.1, cI G a3 5 S]) (fs := [.ref t1, .ref t2, .ref t3, .int (iI ((n : Int))), .int (iI ((o : Int)))]) (pc := 70) C dX3_sendItem_70 (k_X3_widthOfItem l G x t1 t2 t3 T F R n o hT hn60 i (by omega)) gX3_sendItem_X3_widthOfItem ⟨⟨_, rfl⟩, ⟨rfl, rfl⟩, nyX3_widthOfItem, ⟨Nat.le_of_ble_eq_true rfl, Nat.le_of_ble_eq_true rfl⟩⟩ rfl zCl3 rfl (fun h => h) rfl (Nat.le_of_ble_eq_true rfl) [0, 1, 2, 3] [4, 5, 6, 7] rfl rfl (by decide) (by decide) (by decide) ⟨Nat.le_of_ble_eq_true rfl, Nat.le_of_ble_eq_true rfl⟩ (fun v w hk => ?_)
      obtain ⟨rfl, rfl⟩ := hk
      refine z_fix (pc2 := 73) (st2 := [.int (iI ((((zwid T n i) : Nat) : Int))), .int (iI ((i : Int)))]) (ws' := [(x, .inr (3, [.ref t1, .ref t2, .ref t3, .int (iI ((n : Int))), .int (iI ((o : Int)))])), cC G t1 60 T, cI G t2 30 F, cI G t3 30 R, (h, .inr (2, [.ref a1, .ref a2, .ref a3, .int (iI (((s.2.2.1 : Nat) : Int))), .int (iI (((s.2.2.2 : Nat) : Int)))])), cL G a1 24 (zrw s.1), cI G a2 37 s.2.1, cI G a3 5 S]) [4, 5, 6, 7, 0, 1, 2, 3] rfl rfl rfl (by decide) ?_
      refine z_iadd (pc := 73) C dX3_sendItem_73 ?_
      refine z_goto (tgt := 79) (pc := 74) C dX3_sendItem_74 (by decide) ?_
      exact z_iret (pc := 79) C R0 dX3_sendItem_79 (⟨rfl, rfl⟩)
  · have hss : T i = 46 ∨ T i = 95 := by omega
    have hnb2 := hnb hss
    have hs2 := hs
    unfold zitm zlevel at hs2
    rw [if_pos hss] at hs2
    have hroom : znum T n i ≤ 1500 - (e : Int) := Classical.byContradiction fun q => by rw [if_neg q] at hs2; cases hs2
    rw [if_pos hroom] at hs2
    replace hs2 := Option.some.inj hs2
    refine z_aload_n (pc := 13) C dX3_sendItem_13 3 rfl ?_
    refine z_iload_n (pc := 14) C dX3_sendItem_14 0 rfl ?_
    refine z_bipush (pc := 15) C dX3_sendItem_15 (by decide +kernel) ?_
    refine z_icmp_ne (tgt := 24) (pc := 17) C dX3_sendItem_17 (by decide) ⟨by omega, by omega⟩ (by decide) (fun c17 => ?_) (fun c17 => ?_)
    · refine z_iconst (pc := 24) C dX3_sendItem_24 ?_
      refine z_aload_n (pc := 25) C dX3_sendItem_25 1 rfl ?_
      refine z_iload_n (pc := 26) C dX3_sendItem_26 2 rfl ?_
      refine z_iconst (pc := 27) C dX3_sendItem_27 ?_
      refine z_iadd (pc := 28) C dX3_sendItem_28 ?_
      refine z_callV (As := [.int (iI (((i : Int) + 1)))]) (rest := [.int (iI 0), .ref h]) (wc := [(x, .inr (3, [.ref t1, .ref t2, .ref t3, .int (iI ((n : Int))), .int (iI ((o : Int)))])), cC G t1 60 T, cI G t2 30 F, cI G t3 30 R]) (wr := [(h, .inr (2, [.ref a1, .ref a2, .ref a3, .int (iI ((e : Int))), .int (iI ((k : Int)))])), cL G a1 24 (zrw b), cI G a2 37 W, cI G a3 5 S]) (fs := [.ref t1, .ref t2, .ref t3, .int (iI ((n : Int))), .int (iI ((o : Int)))]) (pc := 29) C dX3_sendItem_29 (k_X3_numberAt l G x t1 t2 t3 T F R n o hT hn60 i (by omega)) gX3_sendItem_X3_numberAt ⟨⟨_, rfl⟩, ⟨rfl, rfl⟩, nyX3_numberAt, ⟨Nat.le_of_ble_eq_true rfl, Nat.le_of_ble_eq_true rfl⟩⟩ rfl zCl3 rfl (fun h => h) rfl (Nat.le_of_ble_eq_true rfl) [0, 1, 2, 3] [4, 5, 6, 7] rfl rfl (by decide) (by decide) (by decide) ⟨Nat.le_of_ble_eq_true rfl, Nat.le_of_ble_eq_true rfl⟩ (fun v w hk => ?_)
      obtain ⟨rfl, rfl⟩ := hk
      refine z_fix (pc2 := 32) (st2 := [.int (iI ((znum T n i))), .int (iI 0), .ref h]) (ws' := [(x, .inr (3, [.ref t1, .ref t2, .ref t3, .int (iI ((n : Int))), .int (iI ((o : Int)))])), cC G t1 60 T, cI G t2 30 F, cI G t3 30 R, (h, .inr (2, [.ref a1, .ref a2, .ref a3, .int (iI ((e : Int))), .int (iI ((k : Int)))])), cL G a1 24 (zrw b), cI G a2 37 W, cI G a3 5 S]) [4, 5, 6, 7, 0, 1, 2, 3] rfl rfl rfl (by decide) ?_
      refine z_topi (y := ((((znum T n i).toNat) : Nat) : Int)) (by omega) ?_
      refine z_callV (As := [.int (iI 0), .int (iI (((((znum T n i).toNat) : Nat) : Int)))]) (rest := []) (wc := [(h, .inr (2, [.ref a1, .ref a2, .ref a3, .int (iI ((e : Int))), .int (iI ((k : Int)))])), cL G a1 24 (zrw b), cI G a2 37 W, cI G a3 5 S]) (wr := [(x, .inr (3, [.ref t1, .ref t2, .ref t3, .int (iI ((n : Int))), .int (iI ((o : Int)))])), cC G t1 60 T, cI G t2 30 F, cI G t3 30 R]) (fs := [.ref a1, .ref a2, .ref a3, .int (iI ((e : Int))), .int (iI ((k : Int)))]) (pc := 32) C dX3_sendItem_32 (k_X2_addStretch_t l G h a1 a2 a3 b W S e k hI 0 ((znum T n i).toNat) (by omega) (by omega)) gX3_sendItem_X2_addStretch ⟨⟨_, rfl⟩, ⟨rfl, rfl⟩, nyX2_addStretch, ⟨Nat.le_of_ble_eq_true rfl, Nat.le_of_ble_eq_true rfl⟩⟩ rfl zCl2 rfl (fun h => h) rfl (Nat.le_of_ble_eq_true rfl) [4, 5, 6, 7] [0, 1, 2, 3] rfl rfl (by decide) (by decide) (by decide) ⟨Nat.le_of_ble_eq_true rfl, Nat.le_of_ble_eq_true rfl⟩ (fun v w hk => ?_)
      obtain ⟨rfl, rfl⟩ := hk
      refine z_fix (pc2 := 35) (st2 := [.int (iI 1)]) (ws' := [(x, .inr (3, [.ref t1, .ref t2, .ref t3, .int (iI ((n : Int))), .int (iI ((o : Int)))])), cC G t1 60 T, cI G t2 30 F, cI G t3 30 R, (h, .inr (2, [.ref a1, .ref a2, .ref a3, .int (iI ((((e + ((znum T n i).toNat)) : Nat) : Int))), .int (iI ((k : Int)))])), cL G a1 24 (zrw (zsb b e 0 ((znum T n i).toNat))), cI G a2 37 W, cI G a3 5 S]) [0, 1, 2, 3, 4, 5, 6, 7] rfl rfl rfl (by decide) ?_
      refine z_goto (tgt := 60) (pc := 35) C dX3_sendItem_35 (by decide) ?_
      refine z_ws (ws' := [(x, .inr (3, [.ref t1, .ref t2, .ref t3, .int (iI ((n : Int))), .int (iI ((o : Int)))])), cC G t1 60 T, cI G t2 30 F, cI G t3 30 R, (h, .inr (2, [.ref a1, .ref a2, .ref a3, .int (iI (((s.2.2.1 : Nat) : Int))), .int (iI (((s.2.2.2 : Nat) : Int)))])), cL G a1 24 (zrw s.1), cI G a2 37 s.2.1, cI G a3 5 S]) [0, 1, 2, 3, 4, 5, 6, 7] (by rw [← hs2, if_neg c17]; rfl) (by decide) ?_
      refine z_istore (lv' := [(4, .int (iI 1)), (3, .int (iI ((T i)))), (0, .ref x), (1, .int (iI ((i : Int)))), (2, .ref h)]) (pc := 60) C dX3_sendItem_60 (by decide) rfl ?_
      refine z_iload (pc := 62) C dX3_sendItem_62 0 rfl ?_
      refine z_if_eq (tgt := 77) (pc := 64) C dX3_sendItem_64 (by decide) (by decide) (fun c64 => ?_) (fun c64 => ?_)
      · exfalso; omega
      · refine z_iload_n (pc := 67) C dX3_sendItem_67 3 rfl ?_
        refine z_aload_n (pc := 68) C dX3_sendItem_68 2 rfl ?_
        refine z_iload_n (pc := 69) C dX3_sendItem_69 3 rfl ?_
        refine z_callV (As := [.int (iI ((i : Int)))]) (rest := [.int (iI ((i : Int)))]) (wc := [(x, .inr (3, [.ref t1, .ref t2, .ref t3, .int (iI ((n : Int))), .int (iI ((o : Int)))])), cC G t1 60 T, cI G t2 30 F, cI G t3 30 R]) (wr := [(h, .inr (2, [.ref a1, .ref a2, .ref a3, .int (iI (((s.2.2.1 : Nat) : Int))), .int (iI (((s.2.2.2 : Nat) : Int)))])), cL G a1 24 (zrw s.1), cI G a2 37 s.2.1, cI G a3 5 S]) (fs := [.ref t1, .ref t2, .ref t3, .int (iI ((n : Int))), .int (iI ((o : Int)))]) (pc := 70) C dX3_sendItem_70 (k_X3_widthOfItem l G x t1 t2 t3 T F R n o hT hn60 i (by omega)) gX3_sendItem_X3_widthOfItem ⟨⟨_, rfl⟩, ⟨rfl, rfl⟩, nyX3_widthOfItem, ⟨Nat.le_of_ble_eq_true rfl, Nat.le_of_ble_eq_true rfl⟩⟩ rfl zCl3 rfl (fun h => h) rfl (Nat.le_of_ble_eq_true rfl) [0, 1, 2, 3] [4, 5, 6, 7] rfl rfl (by decide) (by decide) (by decide) ⟨Nat.le_of_ble_eq_true rfl, Nat.le_of_ble_eq_true rfl⟩ (fun v w hk => ?_)
        obtain ⟨rfl, rfl⟩ := hk
        refine z_fix (pc2 := 73) (st2 := [.int (iI ((((zwid T n i) : Nat) : Int))), .int (iI ((i : Int)))]) (ws' := [(x, .inr (3, [.ref t1, .ref t2, .ref t3, .int (iI ((n : Int))), .int (iI ((o : Int)))])), cC G t1 60 T, cI G t2 30 F, cI G t3 30 R, (h, .inr (2, [.ref a1, .ref a2, .ref a3, .int (iI (((s.2.2.1 : Nat) : Int))), .int (iI (((s.2.2.2 : Nat) : Int)))])), cL G a1 24 (zrw s.1), cI G a2 37 s.2.1, cI G a3 5 S]) [4, 5, 6, 7, 0, 1, 2, 3] rfl rfl rfl (by decide) ?_
        refine z_iadd (pc := 73) C dX3_sendItem_73 ?_
        refine z_goto (tgt := 79) (pc := 74) C dX3_sendItem_74 (by decide) ?_
        exact z_iret (pc := 79) C R0 dX3_sendItem_79 (⟨rfl, rfl⟩)
    · refine z_iconst (pc := 20) C dX3_sendItem_20 ?_
      refine z_goto (tgt := 25) (pc := 21) C dX3_sendItem_21 (by decide) ?_
      refine z_aload_n (pc := 25) C dX3_sendItem_25 1 rfl ?_
      refine z_iload_n (pc := 26) C dX3_sendItem_26 2 rfl ?_
      refine z_iconst (pc := 27) C dX3_sendItem_27 ?_
      refine z_iadd (pc := 28) C dX3_sendItem_28 ?_
      refine z_callV (As := [.int (iI (((i : Int) + 1)))]) (rest := [.int (iI 1), .ref h]) (wc := [(x, .inr (3, [.ref t1, .ref t2, .ref t3, .int (iI ((n : Int))), .int (iI ((o : Int)))])), cC G t1 60 T, cI G t2 30 F, cI G t3 30 R]) (wr := [(h, .inr (2, [.ref a1, .ref a2, .ref a3, .int (iI ((e : Int))), .int (iI ((k : Int)))])), cL G a1 24 (zrw b), cI G a2 37 W, cI G a3 5 S]) (fs := [.ref t1, .ref t2, .ref t3, .int (iI ((n : Int))), .int (iI ((o : Int)))]) (pc := 29) C dX3_sendItem_29 (k_X3_numberAt l G x t1 t2 t3 T F R n o hT hn60 i (by omega)) gX3_sendItem_X3_numberAt ⟨⟨_, rfl⟩, ⟨rfl, rfl⟩, nyX3_numberAt, ⟨Nat.le_of_ble_eq_true rfl, Nat.le_of_ble_eq_true rfl⟩⟩ rfl zCl3 rfl (fun h => h) rfl (Nat.le_of_ble_eq_true rfl) [0, 1, 2, 3] [4, 5, 6, 7] rfl rfl (by decide) (by decide) (by decide) ⟨Nat.le_of_ble_eq_true rfl, Nat.le_of_ble_eq_true rfl⟩ (fun v w hk => ?_)
      obtain ⟨rfl, rfl⟩ := hk
      refine z_fix (pc2 := 32) (st2 := [.int (iI ((znum T n i))), .int (iI 1), .ref h]) (ws' := [(x, .inr (3, [.ref t1, .ref t2, .ref t3, .int (iI ((n : Int))), .int (iI ((o : Int)))])), cC G t1 60 T, cI G t2 30 F, cI G t3 30 R, (h, .inr (2, [.ref a1, .ref a2, .ref a3, .int (iI ((e : Int))), .int (iI ((k : Int)))])), cL G a1 24 (zrw b), cI G a2 37 W, cI G a3 5 S]) [4, 5, 6, 7, 0, 1, 2, 3] rfl rfl rfl (by decide) ?_
      refine z_topi (y := ((((znum T n i).toNat) : Nat) : Int)) (by omega) ?_
      refine z_callV (As := [.int (iI 1), .int (iI (((((znum T n i).toNat) : Nat) : Int)))]) (rest := []) (wc := [(h, .inr (2, [.ref a1, .ref a2, .ref a3, .int (iI ((e : Int))), .int (iI ((k : Int)))])), cL G a1 24 (zrw b), cI G a2 37 W, cI G a3 5 S]) (wr := [(x, .inr (3, [.ref t1, .ref t2, .ref t3, .int (iI ((n : Int))), .int (iI ((o : Int)))])), cC G t1 60 T, cI G t2 30 F, cI G t3 30 R]) (fs := [.ref a1, .ref a2, .ref a3, .int (iI ((e : Int))), .int (iI ((k : Int)))]) (pc := 32) C dX3_sendItem_32 (k_X2_addStretch_t l G h a1 a2 a3 b W S e k hI 1 ((znum T n i).toNat) (by omega) (by omega)) gX3_sendItem_X2_addStretch ⟨⟨_, rfl⟩, ⟨rfl, rfl⟩, nyX2_addStretch, ⟨Nat.le_of_ble_eq_true rfl, Nat.le_of_ble_eq_true rfl⟩⟩ rfl zCl2 rfl (fun h => h) rfl (Nat.le_of_ble_eq_true rfl) [4, 5, 6, 7] [0, 1, 2, 3] rfl rfl (by decide) (by decide) (by decide) ⟨Nat.le_of_ble_eq_true rfl, Nat.le_of_ble_eq_true rfl⟩ (fun v w hk => ?_)
      obtain ⟨rfl, rfl⟩ := hk
      refine z_fix (pc2 := 35) (st2 := [.int (iI 1)]) (ws' := [(x, .inr (3, [.ref t1, .ref t2, .ref t3, .int (iI ((n : Int))), .int (iI ((o : Int)))])), cC G t1 60 T, cI G t2 30 F, cI G t3 30 R, (h, .inr (2, [.ref a1, .ref a2, .ref a3, .int (iI ((((e + ((znum T n i).toNat)) : Nat) : Int))), .int (iI ((k : Int)))])), cL G a1 24 (zrw (zsb b e 1 ((znum T n i).toNat))), cI G a2 37 W, cI G a3 5 S]) [0, 1, 2, 3, 4, 5, 6, 7] rfl rfl rfl (by decide) ?_
      refine z_goto (tgt := 60) (pc := 35) C dX3_sendItem_35 (by decide) ?_
      refine z_ws (ws' := [(x, .inr (3, [.ref t1, .ref t2, .ref t3, .int (iI ((n : Int))), .int (iI ((o : Int)))])), cC G t1 60 T, cI G t2 30 F, cI G t3 30 R, (h, .inr (2, [.ref a1, .ref a2, .ref a3, .int (iI (((s.2.2.1 : Nat) : Int))), .int (iI (((s.2.2.2 : Nat) : Int)))])), cL G a1 24 (zrw s.1), cI G a2 37 s.2.1, cI G a3 5 S]) [0, 1, 2, 3, 4, 5, 6, 7] (by rw [← hs2, if_pos c17]; rfl) (by decide) ?_
      refine z_istore (lv' := [(4, .int (iI 1)), (3, .int (iI ((T i)))), (0, .ref x), (1, .int (iI ((i : Int)))), (2, .ref h)]) (pc := 60) C dX3_sendItem_60 (by decide) rfl ?_
      refine z_iload (pc := 62) C dX3_sendItem_62 0 rfl ?_
      refine z_if_eq (tgt := 77) (pc := 64) C dX3_sendItem_64 (by decide) (by decide) (fun c64 => ?_) (fun c64 => ?_)
      · exfalso; omega
      · refine z_iload_n (pc := 67) C dX3_sendItem_67 3 rfl ?_
        refine z_aload_n (pc := 68) C dX3_sendItem_68 2 rfl ?_
        refine z_iload_n (pc := 69) C dX3_sendItem_69 3 rfl ?_
        refine z_callV (As := [.int (iI ((i : Int)))]) (rest := [.int (iI ((i : Int)))]) (wc := [(x, .inr (3, [.ref t1, .ref t2, .ref t3, .int (iI ((n : Int))), .int (iI ((o : Int)))])), cC G t1 60 T, cI G t2 30 F, cI G t3 30 R]) (wr := [(h, .inr (2, [.ref a1, .ref a2, .ref a3, .int (iI (((s.2.2.1 : Nat) : Int))), .int (iI (((s.2.2.2 : Nat) : Int)))])), cL G a1 24 (zrw s.1), cI G a2 37 s.2.1, cI G a3 5 S]) (fs := [.ref t1, .ref t2, .ref t3, .int (iI ((n : Int))), .int (iI ((o : Int)))]) (pc := 70) C dX3_sendItem_70 (k_X3_widthOfItem l G x t1 t2 t3 T F R n o hT hn60 i (by omega)) gX3_sendItem_X3_widthOfItem ⟨⟨_, rfl⟩, ⟨rfl, rfl⟩, nyX3_widthOfItem, ⟨Nat.le_of_ble_eq_true rfl, Nat.le_of_ble_eq_true rfl⟩⟩ rfl zCl3 rfl (fun h => h) rfl (Nat.le_of_ble_eq_true rfl) [0, 1, 2, 3] [4, 5, 6, 7] rfl rfl (by decide) (by decide) (by decide) ⟨Nat.le_of_ble_eq_true rfl, Nat.le_of_ble_eq_true rfl⟩ (fun v w hk => ?_)
        obtain ⟨rfl, rfl⟩ := hk
        refine z_fix (pc2 := 73) (st2 := [.int (iI ((((zwid T n i) : Nat) : Int))), .int (iI ((i : Int)))]) (ws' := [(x, .inr (3, [.ref t1, .ref t2, .ref t3, .int (iI ((n : Int))), .int (iI ((o : Int)))])), cC G t1 60 T, cI G t2 30 F, cI G t3 30 R, (h, .inr (2, [.ref a1, .ref a2, .ref a3, .int (iI (((s.2.2.1 : Nat) : Int))), .int (iI (((s.2.2.2 : Nat) : Int)))])), cL G a1 24 (zrw s.1), cI G a2 37 s.2.1, cI G a3 5 S]) [4, 5, 6, 7, 0, 1, 2, 3] rfl rfl rfl (by decide) ?_
        refine z_iadd (pc := 73) C dX3_sendItem_73 ?_
        refine z_goto (tgt := 79) (pc := 74) C dX3_sendItem_74 (by decide) ?_
        exact z_iret (pc := 79) C R0 dX3_sendItem_79 (⟨rfl, rfl⟩)

set_option maxHeartbeats 4000000 in
set_option maxRecDepth 100000 in
theorem k_X3_sendItem_f (l : Launch) (G : ZG) (h a1 a2 a3 : Nat) (b : Nat → Bool) (W S : Nat → Int) (e k : Nat) (hI : zI b W S e k) (x t1 t2 t3 : Nat) (T F R : Nat → Int) (n o : Nat) (hT : ∀ i, 0 ≤ T i ∧ T i < 65536) (hn60 : n ≤ 60) (i : Nat) (hi : i + 1 < n) (hnb : (T i = 46 ∨ T i = 95) → 1 ≤ znum T n i ∧ znum T n i ≤ 99) (hwb : ¬ (T i = 46 ∨ T i = 95) → 0 ≤ zdg (T i) * 16 + zdg (zch T n ((i : Int) + 1)) ∧ zdg (T i) * 16 + zdg (zch T n ((i : Int) + 1)) ≤ 255) (hs : zitm S T n i (b, W, e, k) = none) : Kt l G yX3_sendItem wsX3_sendItem { frames := 4, cells := 0, slots := 0, locals := 91 } 0 0 False [.ref x, .int (iI ((i : Int))), .ref h] [(x, .inr (3, [.ref t1, .ref t2, .ref t3, .int (iI ((n : Int))), .int (iI ((o : Int)))])), cC G t1 60 T, cI G t2 30 F, cI G t3 30 R, (h, .inr (2, [.ref a1, .ref a2, .ref a3, .int (iI ((e : Int))), .int (iI ((k : Int)))])), cL G a1 24 (zrw b), cI G a2 37 W, cI G a3 5 S] (fun v9 w9 => v9 = some (.int (iI ((-5)))) ∧ w9 = [(x, .inr (3, [.ref t1, .ref t2, .ref t3, .int (iI ((n : Int))), .int (iI ((o : Int)))])), cC G t1 60 T, cI G t2 30 F, cI G t3 30 R, (h, .inr (2, [.ref a1, .ref a2, .ref a3, .int (iI ((e : Int))), .int (iI ((k : Int)))])), cL G a1 24 (zrw b), cI G a2 37 W, cI G a3 5 S]) := by
  refine Kt.of (cc := cX3_sendItem) (nL := 5) (ret := (some .int)) (own := RX3) rfl (by decide +kernel) rfl (Nat.le_of_ble_eq_true rfl) ?_
  intro X Y C R0 hin
  show Z l X G Y 5 0 0 0 [(0, .ref x), (1, .int (iI ((i : Int)))), (2, .ref h)] [] [(x, .inr (3, [.ref t1, .ref t2, .ref t3, .int (iI ((n : Int))), .int (iI ((o : Int)))])), cC G t1 60 T, cI G t2 30 F, cI G t3 30 R, (h, .inr (2, [.ref a1, .ref a2, .ref a3, .int (iI ((e : Int))), .int (iI ((k : Int)))])), cL G a1 24 (zrw b), cI G a2 37 W, cI G a3 5 S]
  obtain ⟨he, hk, hb, s0, s1, s2, s3, s4, hw⟩ := id hI
  refine z_aload_n (pc := 0) C dX3_sendItem_0 0 rfl ?_
  refine z_iload_n (pc := 1) C dX3_sendItem_1 1 rfl ?_
  refine z_callV (As := [.int (iI ((i : Int)))]) (rest := []) (wc := [(x, .inr (3, [.ref t1, .ref t2, .ref t3, .int (iI ((n : Int))), .int (iI ((o : Int)))])), cC G t1 60 T, cI G t2 30 F, cI G t3 30 R]) (wr := [(h, .inr (2, [.ref a1, .ref a2, .ref a3, .int (iI ((e : Int))), .int (iI ((k : Int)))])), cL G a1 24 (zrw b), cI G a2 37 W, cI G a3 5 S]) (fs := [.ref t1, .ref t2, .ref t3, .int (iI ((n : Int))), .int (iI ((o : Int)))]) (pc := 2) C dX3_sendItem_2 (k_X3_characterAt l G x t1 t2 t3 T F R n o hT hn60 (i : Int) ⟨by omega, by omega⟩) gX3_sendItem_X3_characterAt ⟨⟨_, rfl⟩, ⟨rfl, rfl⟩, nyX3_characterAt, ⟨Nat.le_of_ble_eq_true rfl, Nat.le_of_ble_eq_true rfl⟩⟩ rfl zCl3 rfl (fun h => h) rfl (Nat.le_of_ble_eq_true rfl) [0, 1, 2, 3] [4, 5, 6, 7] rfl rfl (by decide) (by decide) (by decide) ⟨Nat.le_of_ble_eq_true rfl, Nat.le_of_ble_eq_true rfl⟩ (fun v w hk => ?_)
  obtain ⟨rfl, rfl⟩ := hk
  refine z_fix (pc2 := 5) (st2 := [.int (iI ((zch T n (i : Int))))]) (ws' := [(x, .inr (3, [.ref t1, .ref t2, .ref t3, .int (iI ((n : Int))), .int (iI ((o : Int)))])), cC G t1 60 T, cI G t2 30 F, cI G t3 30 R, (h, .inr (2, [.ref a1, .ref a2, .ref a3, .int (iI ((e : Int))), .int (iI ((k : Int)))])), cL G a1 24 (zrw b), cI G a2 37 W, cI G a3 5 S]) [4, 5, 6, 7, 0, 1, 2, 3] rfl rfl rfl (by decide) ?_
  have hTi := hT i
  refine z_topi (y := (T i)) (zch_at (by omega)) ?_
  refine z_istore_n (lv' := [(3, .int (iI ((T i)))), (0, .ref x), (1, .int (iI ((i : Int)))), (2, .ref h)]) (pc := 5) C dX3_sendItem_5 (by decide) rfl ?_
  refine z_iload_n (pc := 6) C dX3_sendItem_6 0 rfl ?_
  refine z_callS (As := [.int (iI ((T i)))]) (rest := []) (wc := []) (wr := [(x, .inr (3, [.ref t1, .ref t2, .ref t3, .int (iI ((n : Int))), .int (iI ((o : Int)))])), cC G t1 60 T, cI G t2 30 F, cI G t3 30 R, (h, .inr (2, [.ref a1, .ref a2, .ref a3, .int (iI ((e : Int))), .int (iI ((k : Int)))])), cL G a1 24 (zrw b), cI G a2 37 W, cI G a3 5 S]) (pc := 7) C dX3_sendItem_7 (k_X3_isStretch l G (T i) hTi) gX3_sendItem_X3_isStretch ⟨⟨_, rfl⟩, ⟨rfl, rfl⟩, nyX3_isStretch, ⟨Nat.le_of_ble_eq_true rfl, Nat.le_of_ble_eq_true rfl⟩⟩ (fun h => h) rfl (Nat.le_of_ble_eq_true rfl) [] [0, 1, 2, 3, 4, 5, 6, 7] rfl rfl (by decide) (by decide) (by decide) ⟨Nat.le_of_ble_eq_true rfl, Nat.le_of_ble_eq_true rfl⟩ (fun v w hk => ?_)
  obtain ⟨r_7, h7_0, rfl, rfl⟩ := hk
  refine z_fix (pc2 := 10) (st2 := [.int (iI r_7)]) (ws' := [(x, .inr (3, [.ref t1, .ref t2, .ref t3, .int (iI ((n : Int))), .int (iI ((o : Int)))])), cC G t1 60 T, cI G t2 30 F, cI G t3 30 R, (h, .inr (2, [.ref a1, .ref a2, .ref a3, .int (iI ((e : Int))), .int (iI ((k : Int)))])), cL G a1 24 (zrw b), cI G a2 37 W, cI G a3 5 S]) [0, 1, 2, 3, 4, 5, 6, 7] rfl rfl rfl (by decide) ?_
  refine z_if_eq (tgt := 38) (pc := 10) C dX3_sendItem_10 (by decide) ⟨by omega, by omega⟩ (fun c10 => ?_) (fun c10 => ?_)
  · have hss : ¬ (T i = 46 ∨ T i = 95) := by omega
    have hwb2 := hwb hss
    have hs2 := hs
    unfold zitm at hs2
    rw [if_neg hss] at hs2
    have hroom : 1500 - (e : Int) < ztk S := Classical.byContradiction fun q => by rw [if_pos (Int.not_lt.mp q)] at hs2; cases hs2
    refine z_aload_n (pc := 38) C dX3_sendItem_38 3 rfl ?_
    refine z_iload_n (pc := 39) C dX3_sendItem_39 0 rfl ?_
    refine z_callS (As := [.int (iI ((T i)))]) (rest := [.ref h]) (wc := []) (wr := [(x, .inr (3, [.ref t1, .ref t2, .ref t3, .int (iI ((n : Int))), .int (iI ((o : Int)))])), cC G t1 60 T, cI G t2 30 F, cI G t3 30 R, (h, .inr (2, [.ref a1, .ref a2, .ref a3, .int (iI ((e : Int))), .int (iI ((k : Int)))])), cL G a1 24 (zrw b), cI G a2 37 W, cI G a3 5 S]) (pc := 40) C dX3_sendItem_40 (k_X3_digit l G (T i) hTi) gX3_sendItem_X3_digit ⟨⟨_, rfl⟩, ⟨rfl, rfl⟩, nyX3_digit, ⟨Nat.le_of_ble_eq_true rfl, Nat.le_of_ble_eq_true rfl⟩⟩ (fun h => h) rfl (Nat.le_of_ble_eq_true rfl) [] [0, 1, 2, 3, 4, 5, 6, 7] rfl rfl (by decide) (by decide) (by decide) ⟨Nat.le_of_ble_eq_true rfl, Nat.le_of_ble_eq_true rfl⟩ (fun v w hk => ?_)
    obtain ⟨rfl, rfl⟩ := hk
    refine z_fix (pc2 := 43) (st2 := [.int (iI ((zdg (T i)))), .ref h]) (ws' := [(x, .inr (3, [.ref t1, .ref t2, .ref t3, .int (iI ((n : Int))), .int (iI ((o : Int)))])), cC G t1 60 T, cI G t2 30 F, cI G t3 30 R, (h, .inr (2, [.ref a1, .ref a2, .ref a3, .int (iI ((e : Int))), .int (iI ((k : Int)))])), cL G a1 24 (zrw b), cI G a2 37 W, cI G a3 5 S]) [0, 1, 2, 3, 4, 5, 6, 7] rfl rfl rfl (by decide) ?_
    refine z_bipush (pc := 43) C dX3_sendItem_43 (by decide +kernel) ?_
    refine z_imul (pc := 45) C dX3_sendItem_45 ?_
    refine z_aload_n (pc := 46) C dX3_sendItem_46 1 rfl ?_
    refine z_iload_n (pc := 47) C dX3_sendItem_47 2 rfl ?_
    refine z_iconst (pc := 48) C dX3_sendItem_48 ?_
    refine z_iadd (pc := 49) C dX3_sendItem_49 ?_
    refine z_callV (As := [.int (iI (((i : Int) + 1)))]) (rest := [.int (iI (((zdg (T i)) * 16))), .ref h]) (wc := [(x, .inr (3, [.ref t1, .ref t2, .ref t3, .int (iI ((n : Int))), .int (iI ((o : Int)))])), cC G t1 60 T, cI G t2 30 F, cI G t3 30 R]) (wr := [(h, .inr (2, [.ref a1, .ref a2, .ref a3, .int (iI ((e : Int))), .int (iI ((k : Int)))])), cL G a1 24 (zrw b), cI G a2 37 W, cI G a3 5 S]) (fs := [.ref t1, .ref t2, .ref t3, .int (iI ((n : Int))), .int (iI ((o : Int)))]) (pc := 50) C dX3_sendItem_50 (k_X3_characterAt l G x t1 t2 t3 T F R n o hT hn60 ((i : Int) + 1) ⟨by omega, by omega⟩) gX3_sendItem_X3_characterAt ⟨⟨_, rfl⟩, ⟨rfl, rfl⟩, nyX3_characterAt, ⟨Nat.le_of_ble_eq_true rfl, Nat.le_of_ble_eq_true rfl⟩⟩ rfl zCl3 rfl (fun h => h) rfl (Nat.le_of_ble_eq_true rfl) [0, 1, 2, 3] [4, 5, 6, 7] rfl rfl (by decide) (by decide) (by decide) ⟨Nat.le_of_ble_eq_true rfl, Nat.le_of_ble_eq_true rfl⟩ (fun v w hk => ?_)
    obtain ⟨rfl, rfl⟩ := hk
    refine z_fix (pc2 := 53) (st2 := [.int (iI ((zch T n ((i : Int) + 1)))), .int (iI (((zdg (T i)) * 16))), .ref h]) (ws' := [(x, .inr (3, [.ref t1, .ref t2, .ref t3, .int (iI ((n : Int))), .int (iI ((o : Int)))])), cC G t1 60 T, cI G t2 30 F, cI G t3 30 R, (h, .inr (2, [.ref a1, .ref a2, .ref a3, .int (iI ((e : Int))), .int (iI ((k : Int)))])), cL G a1 24 (zrw b), cI G a2 37 W, cI G a3 5 S]) [4, 5, 6, 7, 0, 1, 2, 3] rfl rfl rfl (by decide) ?_
    refine z_callS (As := [.int (iI ((zch T n ((i : Int) + 1))))]) (rest := [.int (iI (((zdg (T i)) * 16))), .ref h]) (wc := []) (wr := [(x, .inr (3, [.ref t1, .ref t2, .ref t3, .int (iI ((n : Int))), .int (iI ((o : Int)))])), cC G t1 60 T, cI G t2 30 F, cI G t3 30 R, (h, .inr (2, [.ref a1, .ref a2, .ref a3, .int (iI ((e : Int))), .int (iI ((k : Int)))])), cL G a1 24 (zrw b), cI G a2 37 W, cI G a3 5 S]) (pc := 53) C dX3_sendItem_53 (k_X3_digit l G (zch T n ((i : Int) + 1)) (zch_b hT n _)) gX3_sendItem_X3_digit ⟨⟨_, rfl⟩, ⟨rfl, rfl⟩, nyX3_digit, ⟨Nat.le_of_ble_eq_true rfl, Nat.le_of_ble_eq_true rfl⟩⟩ (fun h => h) rfl (Nat.le_of_ble_eq_true rfl) [] [0, 1, 2, 3, 4, 5, 6, 7] rfl rfl (by decide) (by decide) (by decide) ⟨Nat.le_of_ble_eq_true rfl, Nat.le_of_ble_eq_true rfl⟩ (fun v w hk => ?_)
    obtain ⟨rfl, rfl⟩ := hk
    refine z_fix (pc2 := 56) (st2 := [.int (iI ((zdg (zch T n ((i : Int) + 1))))), .int (iI (((zdg (T i)) * 16))), .ref h]) (ws' := [(x, .inr (3, [.ref t1, .ref t2, .ref t3, .int (iI ((n : Int))), .int (iI ((o : Int)))])), cC G t1 60 T, cI G t2 30 F, cI G t3 30 R, (h, .inr (2, [.ref a1, .ref a2, .ref a3, .int (iI ((e : Int))), .int (iI ((k : Int)))])), cL G a1 24 (zrw b), cI G a2 37 W, cI G a3 5 S]) [0, 1, 2, 3, 4, 5, 6, 7] rfl rfl rfl (by decide) ?_
    refine z_iadd (pc := 56) C dX3_sendItem_56 ?_
    refine z_topi (y := ((((zdg (T i) * 16 + zdg (zch T n ((i : Int) + 1))).toNat) : Nat) : Int)) ((Int.toNat_of_nonneg hwb2.1).symm) ?_
    refine z_callV (As := [.int (iI (((((zdg (T i) * 16 + zdg (zch T n ((i : Int) + 1))).toNat) : Nat) : Int)))]) (rest := []) (wc := [(h, .inr (2, [.ref a1, .ref a2, .ref a3, .int (iI ((e : Int))), .int (iI ((k : Int)))])), cL G a1 24 (zrw b), cI G a2 37 W, cI G a3 5 S]) (wr := [(x, .inr (3, [.ref t1, .ref t2, .ref t3, .int (iI ((n : Int))), .int (iI ((o : Int)))])), cC G t1 60 T, cI G t2 30 F, cI G t3 30 R]) (fs := [.ref a1, .ref a2, .ref a3, .int (iI ((e : Int))), .int (iI ((k : Int)))]) (pc := 57) C dX3_sendItem_57 (k_X2_addWord_f l G h a1 a2 a3 b W S e k hI ((zdg (T i) * 16 + zdg (zch T n ((i : Int) + 1))).toNat) (by omega) hroom) gX3_sendItem_X2_addWord ⟨⟨_, rfl⟩, ⟨rfl, rfl⟩, nyX2_addWord, ⟨Nat.le_of_ble_eq_true rfl, Nat.le_of_ble_eq_true rfl⟩⟩ rfl zCl2 rfl (fun h => h) rfl (Nat.le_of_ble_eq_true rfl) [4, 5, 6, 7] [0, 1, 2, 3] rfl rfl (by decide) (by decide) (by decide) ⟨Nat.le_of_ble_eq_true rfl, Nat.le_of_ble_eq_true rfl⟩ (fun v w hk => ?_)
    obtain ⟨rfl, rfl⟩ := hk
    refine z_fix (pc2 := 60) (st2 := [.int (iI 0)]) (ws' := [(x, .inr (3, [.ref t1, .ref t2, .ref t3, .int (iI ((n : Int))), .int (iI ((o : Int)))])), cC G t1 60 T, cI G t2 30 F, cI G t3 30 R, (h, .inr (2, [.ref a1, .ref a2, .ref a3, .int (iI ((e : Int))), .int (iI ((k : Int)))])), cL G a1 24 (zrw b), cI G a2 37 W, cI G a3 5 S]) [0, 1, 2, 3, 4, 5, 6, 7] rfl rfl rfl (by decide) ?_
    refine z_istore (lv' := [(4, .int (iI 0)), (3, .int (iI ((T i)))), (0, .ref x), (1, .int (iI ((i : Int)))), (2, .ref h)]) (pc := 60) C dX3_sendItem_60 (by decide) rfl ?_
    refine z_iload (pc := 62) C dX3_sendItem_62 0 rfl ?_
    refine z_if_eq (tgt := 77) (pc := 64) C dX3_sendItem_64 (by decide) (by decide) (fun c64 => ?_) (fun c64 => ?_)
    · refine z_bipush (pc := 77) C dX3_sendItem_77 (by decide +kernel) ?_
      exact z_iret (pc := 79) C R0 dX3_sendItem_79 (⟨rfl, rfl⟩)
    · exfalso; omega
  · have hss : T i = 46 ∨ T i = 95 := by omega
    have hnb2 := hnb hss
    have hs2 := hs
    unfold zitm at hs2
    rw [if_pos hss] at hs2
    have hroom : 1500 - (e : Int) < znum T n i := Classical.byContradiction fun q => by rw [if_pos (Int.not_lt.mp q)] at hs2; cases hs2
    refine z_aload_n (pc := 13) C dX3_sendItem_13 3 rfl ?_
    refine z_iload_n (pc := 14) C dX3_sendItem_14 0 rfl ?_
    refine z_bipush (pc := 15) C dX3_sendItem_15 (by decide +kernel) ?_
    refine z_icmp_ne (tgt := 24) (pc := 17) C dX3_sendItem_17 (by decide) ⟨by omega, by omega⟩ (by decide) (fun c17 => ?_) (fun c17 => ?_)
    · refine z_iconst (pc := 24) C dX3_sendItem_24 ?_
      refine z_aload_n (pc := 25) C dX3_sendItem_25 1 rfl ?_
      refine z_iload_n (pc := 26) C dX3_sendItem_26 2 rfl ?_
      refine z_iconst (pc := 27) C dX3_sendItem_27 ?_
      refine z_iadd (pc := 28) C dX3_sendItem_28 ?_
      refine z_callV (As := [.int (iI (((i : Int) + 1)))]) (rest := [.int (iI 0), .ref h]) (wc := [(x, .inr (3, [.ref t1, .ref t2, .ref t3, .int (iI ((n : Int))), .int (iI ((o : Int)))])), cC G t1 60 T, cI G t2 30 F, cI G t3 30 R]) (wr := [(h, .inr (2, [.ref a1, .ref a2, .ref a3, .int (iI ((e : Int))), .int (iI ((k : Int)))])), cL G a1 24 (zrw b), cI G a2 37 W, cI G a3 5 S]) (fs := [.ref t1, .ref t2, .ref t3, .int (iI ((n : Int))), .int (iI ((o : Int)))]) (pc := 29) C dX3_sendItem_29 (k_X3_numberAt l G x t1 t2 t3 T F R n o hT hn60 i (by omega)) gX3_sendItem_X3_numberAt ⟨⟨_, rfl⟩, ⟨rfl, rfl⟩, nyX3_numberAt, ⟨Nat.le_of_ble_eq_true rfl, Nat.le_of_ble_eq_true rfl⟩⟩ rfl zCl3 rfl (fun h => h) rfl (Nat.le_of_ble_eq_true rfl) [0, 1, 2, 3] [4, 5, 6, 7] rfl rfl (by decide) (by decide) (by decide) ⟨Nat.le_of_ble_eq_true rfl, Nat.le_of_ble_eq_true rfl⟩ (fun v w hk => ?_)
      obtain ⟨rfl, rfl⟩ := hk
      refine z_fix (pc2 := 32) (st2 := [.int (iI ((znum T n i))), .int (iI 0), .ref h]) (ws' := [(x, .inr (3, [.ref t1, .ref t2, .ref t3, .int (iI ((n : Int))), .int (iI ((o : Int)))])), cC G t1 60 T, cI G t2 30 F, cI G t3 30 R, (h, .inr (2, [.ref a1, .ref a2, .ref a3, .int (iI ((e : Int))), .int (iI ((k : Int)))])), cL G a1 24 (zrw b), cI G a2 37 W, cI G a3 5 S]) [4, 5, 6, 7, 0, 1, 2, 3] rfl rfl rfl (by decide) ?_
      refine z_topi (y := ((((znum T n i).toNat) : Nat) : Int)) (by omega) ?_
      refine z_callV (As := [.int (iI 0), .int (iI (((((znum T n i).toNat) : Nat) : Int)))]) (rest := []) (wc := [(h, .inr (2, [.ref a1, .ref a2, .ref a3, .int (iI ((e : Int))), .int (iI ((k : Int)))])), cL G a1 24 (zrw b), cI G a2 37 W, cI G a3 5 S]) (wr := [(x, .inr (3, [.ref t1, .ref t2, .ref t3, .int (iI ((n : Int))), .int (iI ((o : Int)))])), cC G t1 60 T, cI G t2 30 F, cI G t3 30 R]) (fs := [.ref a1, .ref a2, .ref a3, .int (iI ((e : Int))), .int (iI ((k : Int)))]) (pc := 32) C dX3_sendItem_32 (k_X2_addStretch_f l G h a1 a2 a3 b W S e k hI 0 ((znum T n i).toNat) (by omega) (by omega)) gX3_sendItem_X2_addStretch ⟨⟨_, rfl⟩, ⟨rfl, rfl⟩, nyX2_addStretch, ⟨Nat.le_of_ble_eq_true rfl, Nat.le_of_ble_eq_true rfl⟩⟩ rfl zCl2 rfl (fun h => h) rfl (Nat.le_of_ble_eq_true rfl) [4, 5, 6, 7] [0, 1, 2, 3] rfl rfl (by decide) (by decide) (by decide) ⟨Nat.le_of_ble_eq_true rfl, Nat.le_of_ble_eq_true rfl⟩ (fun v w hk => ?_)
      obtain ⟨rfl, rfl⟩ := hk
      refine z_fix (pc2 := 35) (st2 := [.int (iI 0)]) (ws' := [(x, .inr (3, [.ref t1, .ref t2, .ref t3, .int (iI ((n : Int))), .int (iI ((o : Int)))])), cC G t1 60 T, cI G t2 30 F, cI G t3 30 R, (h, .inr (2, [.ref a1, .ref a2, .ref a3, .int (iI ((e : Int))), .int (iI ((k : Int)))])), cL G a1 24 (zrw b), cI G a2 37 W, cI G a3 5 S]) [0, 1, 2, 3, 4, 5, 6, 7] rfl rfl rfl (by decide) ?_
      refine z_goto (tgt := 60) (pc := 35) C dX3_sendItem_35 (by decide) ?_
      refine z_istore (lv' := [(4, .int (iI 0)), (3, .int (iI ((T i)))), (0, .ref x), (1, .int (iI ((i : Int)))), (2, .ref h)]) (pc := 60) C dX3_sendItem_60 (by decide) rfl ?_
      refine z_iload (pc := 62) C dX3_sendItem_62 0 rfl ?_
      refine z_if_eq (tgt := 77) (pc := 64) C dX3_sendItem_64 (by decide) (by decide) (fun c64 => ?_) (fun c64 => ?_)
      · refine z_bipush (pc := 77) C dX3_sendItem_77 (by decide +kernel) ?_
        exact z_iret (pc := 79) C R0 dX3_sendItem_79 (⟨rfl, rfl⟩)
      · exfalso; omega
    · refine z_iconst (pc := 20) C dX3_sendItem_20 ?_
      refine z_goto (tgt := 25) (pc := 21) C dX3_sendItem_21 (by decide) ?_
      refine z_aload_n (pc := 25) C dX3_sendItem_25 1 rfl ?_
      refine z_iload_n (pc := 26) C dX3_sendItem_26 2 rfl ?_
      refine z_iconst (pc := 27) C dX3_sendItem_27 ?_
      refine z_iadd (pc := 28) C dX3_sendItem_28 ?_
      refine z_callV (As := [.int (iI (((i : Int) + 1)))]) (rest := [.int (iI 1), .ref h]) (wc := [(x, .inr (3, [.ref t1, .ref t2, .ref t3, .int (iI ((n : Int))), .int (iI ((o : Int)))])), cC G t1 60 T, cI G t2 30 F, cI G t3 30 R]) (wr := [(h, .inr (2, [.ref a1, .ref a2, .ref a3, .int (iI ((e : Int))), .int (iI ((k : Int)))])), cL G a1 24 (zrw b), cI G a2 37 W, cI G a3 5 S]) (fs := [.ref t1, .ref t2, .ref t3, .int (iI ((n : Int))), .int (iI ((o : Int)))]) (pc := 29) C dX3_sendItem_29 (k_X3_numberAt l G x t1 t2 t3 T F R n o hT hn60 i (by omega)) gX3_sendItem_X3_numberAt ⟨⟨_, rfl⟩, ⟨rfl, rfl⟩, nyX3_numberAt, ⟨Nat.le_of_ble_eq_true rfl, Nat.le_of_ble_eq_true rfl⟩⟩ rfl zCl3 rfl (fun h => h) rfl (Nat.le_of_ble_eq_true rfl) [0, 1, 2, 3] [4, 5, 6, 7] rfl rfl (by decide) (by decide) (by decide) ⟨Nat.le_of_ble_eq_true rfl, Nat.le_of_ble_eq_true rfl⟩ (fun v w hk => ?_)
      obtain ⟨rfl, rfl⟩ := hk
      refine z_fix (pc2 := 32) (st2 := [.int (iI ((znum T n i))), .int (iI 1), .ref h]) (ws' := [(x, .inr (3, [.ref t1, .ref t2, .ref t3, .int (iI ((n : Int))), .int (iI ((o : Int)))])), cC G t1 60 T, cI G t2 30 F, cI G t3 30 R, (h, .inr (2, [.ref a1, .ref a2, .ref a3, .int (iI ((e : Int))), .int (iI ((k : Int)))])), cL G a1 24 (zrw b), cI G a2 37 W, cI G a3 5 S]) [4, 5, 6, 7, 0, 1, 2, 3] rfl rfl rfl (by decide) ?_
      refine z_topi (y := ((((znum T n i).toNat) : Nat) : Int)) (by omega) ?_
      refine z_callV (As := [.int (iI 1), .int (iI (((((znum T n i).toNat) : Nat) : Int)))]) (rest := []) (wc := [(h, .inr (2, [.ref a1, .ref a2, .ref a3, .int (iI ((e : Int))), .int (iI ((k : Int)))])), cL G a1 24 (zrw b), cI G a2 37 W, cI G a3 5 S]) (wr := [(x, .inr (3, [.ref t1, .ref t2, .ref t3, .int (iI ((n : Int))), .int (iI ((o : Int)))])), cC G t1 60 T, cI G t2 30 F, cI G t3 30 R]) (fs := [.ref a1, .ref a2, .ref a3, .int (iI ((e : Int))), .int (iI ((k : Int)))]) (pc := 32) C dX3_sendItem_32 (k_X2_addStretch_f l G h a1 a2 a3 b W S e k hI 1 ((znum T n i).toNat) (by omega) (by omega)) gX3_sendItem_X2_addStretch ⟨⟨_, rfl⟩, ⟨rfl, rfl⟩, nyX2_addStretch, ⟨Nat.le_of_ble_eq_true rfl, Nat.le_of_ble_eq_true rfl⟩⟩ rfl zCl2 rfl (fun h => h) rfl (Nat.le_of_ble_eq_true rfl) [4, 5, 6, 7] [0, 1, 2, 3] rfl rfl (by decide) (by decide) (by decide) ⟨Nat.le_of_ble_eq_true rfl, Nat.le_of_ble_eq_true rfl⟩ (fun v w hk => ?_)
      obtain ⟨rfl, rfl⟩ := hk
      refine z_fix (pc2 := 35) (st2 := [.int (iI 0)]) (ws' := [(x, .inr (3, [.ref t1, .ref t2, .ref t3, .int (iI ((n : Int))), .int (iI ((o : Int)))])), cC G t1 60 T, cI G t2 30 F, cI G t3 30 R, (h, .inr (2, [.ref a1, .ref a2, .ref a3, .int (iI ((e : Int))), .int (iI ((k : Int)))])), cL G a1 24 (zrw b), cI G a2 37 W, cI G a3 5 S]) [0, 1, 2, 3, 4, 5, 6, 7] rfl rfl rfl (by decide) ?_
      refine z_goto (tgt := 60) (pc := 35) C dX3_sendItem_35 (by decide) ?_
      refine z_istore (lv' := [(4, .int (iI 0)), (3, .int (iI ((T i)))), (0, .ref x), (1, .int (iI ((i : Int)))), (2, .ref h)]) (pc := 60) C dX3_sendItem_60 (by decide) rfl ?_
      refine z_iload (pc := 62) C dX3_sendItem_62 0 rfl ?_
      refine z_if_eq (tgt := 77) (pc := 64) C dX3_sendItem_64 (by decide) (by decide) (fun c64 => ?_) (fun c64 => ?_)
      · refine z_bipush (pc := 77) C dX3_sendItem_77 (by decide +kernel) ?_
        exact z_iret (pc := 79) C R0 dX3_sendItem_79 (⟨rfl, rfl⟩)
      · exfalso; omega
