/-! THE REFERENCE, walked: the text -/
theorem ffX5_codeAt_138 : zFF wsX5_codeAt RX5 138 RX5 TX5 20 7 := ⟨by decide +kernel, by decide, by decide +kernel⟩
theorem ffX5_codeAt_22 : zFF wsX5_codeAt RX5 22 RX5 TX5 20 6 := ⟨by decide +kernel, by decide, by decide +kernel⟩
set_option maxHeartbeats 4000000 in
set_option maxRecDepth 100000 in
theorem k_X5_codeAt (l : Launch) (G : ZG) (B : Nat → Nat) (q0 q1 q2 q3 q4 q5 q6 q7 : Nat) (T : Nat → Int) (i : Nat) (hn : q2 ≤ 60) (hi : i ≤ 1000) : Kt l G yX5_codeAt wsX5_codeAt { frames := 0, cells := 0, slots := 0, locals := 0 } 0 0 False [.ref ((B 0)), .int (iI ((i : Int)))] [((B 0), .inr (5, [.ref ((B 1)), .ref ((B 2)), .int (iI ((q0 : Int))), .ref ((B 3)), .int (iI ((q1 : Int))), .ref ((B 4)), .ref ((B 5)), .int (iI ((q2 : Int))), .int (iI ((q3 : Int))), .int (iI ((q4 : Int))), .ref ((B 6)), .ref ((B 7)), .int (iI ((q5 : Int))), .int (iI ((q6 : Int))), .ref ((B 8)), .ref ((B 9)), .ref ((B 10)), .ref ((B 11)), .ref ((B 12)), .int (iI ((q7 : Int)))])), cI G (B 5) 60 T] (fun v9 w9 => v9 = some (.int (iI ((zcx T q2 i)))) ∧ w9 = [((B 0), .inr (5, [.ref ((B 1)), .ref ((B 2)), .int (iI ((q0 : Int))), .ref ((B 3)), .int (iI ((q1 : Int))), .ref ((B 4)), .ref ((B 5)), .int (iI ((q2 : Int))), .int (iI ((q3 : Int))), .int (iI ((q4 : Int))), .ref ((B 6)), .ref ((B 7)), .int (iI ((q5 : Int))), .int (iI ((q6 : Int))), .ref ((B 8)), .ref ((B 9)), .ref ((B 10)), .ref ((B 11)), .ref ((B 12)), .int (iI ((q7 : Int)))])), cI G (B 5) 60 T]) := by
  refine Kt.of (cc := cX5_codeAt) (nL := 2) (ret := (some .int)) (own := RX5) rfl (by decide +kernel) rfl (Nat.le_of_ble_eq_true rfl) ?_
  intro X Y C R0 hin
  show Z l X G Y 2 0 0 0 [(0, .ref ((B 0))), (1, .int (iI ((i : Int))))] [] [((B 0), .inr (5, [.ref ((B 1)), .ref ((B 2)), .int (iI ((q0 : Int))), .ref ((B 3)), .int (iI ((q1 : Int))), .ref ((B 4)), .ref ((B 5)), .int (iI ((q2 : Int))), .int (iI ((q3 : Int))), .int (iI ((q4 : Int))), .ref ((B 6)), .ref ((B 7)), .int (iI ((q5 : Int))), .int (iI ((q6 : Int))), .ref ((B 8)), .ref ((B 9)), .ref ((B 10)), .ref ((B 11)), .ref ((B 12)), .int (iI ((q7 : Int)))])), cI G (B 5) 60 T]
  refine z_iload_n (pc := 0) C dX5_codeAt_0 1 rfl ?_
  refine z_aload_n (pc := 1) C dX5_codeAt_1 0 rfl ?_
  refine z_get (pc := 2) C dX5_codeAt_2 zCl5 ffX5_codeAt_138 0 rfl rfl ?_
  refine z_icmp_ge (tgt := 17) (pc := 5) C dX5_codeAt_5 (by decide) ⟨by omega, by omega⟩ ⟨by omega, by omega⟩ (fun c5 => ?_) (fun c5 => ?_)
  · refine z_iconst (pc := 17) C dX5_codeAt_17 ?_
    refine z_topi (y := (zcx T q2 i)) ((zcx_out (by omega)).symm) ?_
    exact z_iret (pc := 18) C R0 dX5_codeAt_18 (⟨rfl, rfl⟩)
  · refine z_aload_n (pc := 8) C dX5_codeAt_8 0 rfl ?_
    refine z_get (pc := 9) C dX5_codeAt_9 zCl5 ffX5_codeAt_22 0 rfl rfl ?_
    refine z_iload_n (pc := 12) C dX5_codeAt_12 1 rfl ?_
    refine z_iald (pc := 13) C dX5_codeAt_13 1 rfl (i) (by omega) (by omega) (by decide) ?_
    refine z_goto (tgt := 18) (pc := 14) C dX5_codeAt_14 (by decide) ?_
    refine z_topi (y := (zcx T q2 i)) ((zcx_at (by omega)).symm) ?_
    exact z_iret (pc := 18) C R0 dX5_codeAt_18 (⟨rfl, rfl⟩)

set_option maxHeartbeats 4000000 in
set_option maxRecDepth 100000 in
theorem k_X5_hex (l : Launch) (G : ZG)  (c : Int) (hc : iR c) : Kt l G yX5_hex wsX5_hex { frames := 1, cells := 0, slots := 0, locals := 22 } 0 0 False [.int (iI c)] [] (fun v9 w9 => v9 = some (.int (iI ((zdg c)))) ∧ w9 = []) := by
  refine Kt.of (cc := cX5_hex) (nL := 1) (ret := (some .int)) (own := RX5) rfl (by decide +kernel) rfl (Nat.le_of_ble_eq_true rfl) ?_
  intro X Y C R0 hin
  show Z l X G Y 1 0 0 0 [(0, .int (iI c))] [] []
  refine z_iload_n (pc := 0) C dX5_hex_0 0 rfl ?_
  refine z_bipush (pc := 1) C dX5_hex_1 (by decide +kernel) ?_
  refine z_bipush (pc := 3) C dX5_hex_3 (by decide +kernel) ?_
  refine z_callS (As := [.int (iI c), .int (iI 48), .int (iI 57)]) (rest := []) (wc := []) (wr := []) (pc := 5) C dX5_hex_5 (k_X5_within l G c 48 57 hc (by decide) (by decide)) gX5_hex_X5_within ⟨⟨_, rfl⟩, ⟨rfl, rfl⟩, nyX5_within, ⟨Nat.le_of_ble_eq_true rfl, Nat.le_of_ble_eq_true rfl⟩⟩ (fun h => h) rfl (Nat.le_of_ble_eq_true rfl) [] [] rfl rfl (by decide) (by decide) (by decide) ⟨Nat.le_of_ble_eq_true rfl, Nat.le_of_ble_eq_true rfl⟩ (fun v w hk => ?_)
  obtain ⟨r_5, h5_0, rfl, rfl⟩ := hk
  refine z_fix (pc2 := 8) (st2 := [.int (iI r_5)]) (ws' := []) [] rfl rfl rfl (by decide) ?_
  refine z_if_eq (tgt := 18) (pc := 8) C dX5_hex_8 (by decide) ⟨by omega, by omega⟩ (fun c8 => ?_) (fun c8 => ?_)
  · refine z_iload_n (pc := 18) C dX5_hex_18 0 rfl ?_
    refine z_bipush (pc := 19) C dX5_hex_19 (by decide +kernel) ?_
    refine z_bipush (pc := 21) C dX5_hex_21 (by decide +kernel) ?_
    refine z_callS (As := [.int (iI c), .int (iI 97), .int (iI 102)]) (rest := []) (wc := []) (wr := []) (pc := 23) C dX5_hex_23 (k_X5_within l G c 97 102 hc (by decide) (by decide)) gX5_hex_X5_within ⟨⟨_, rfl⟩, ⟨rfl, rfl⟩, nyX5_within, ⟨Nat.le_of_ble_eq_true rfl, Nat.le_of_ble_eq_true rfl⟩⟩ (fun h => h) rfl (Nat.le_of_ble_eq_true rfl) [] [] rfl rfl (by decide) (by decide) (by decide) ⟨Nat.le_of_ble_eq_true rfl, Nat.le_of_ble_eq_true rfl⟩ (fun v w hk => ?_)
    obtain ⟨r_23, h23_0, rfl, rfl⟩ := hk
    refine z_fix (pc2 := 26) (st2 := [.int (iI r_23)]) (ws' := []) [] rfl rfl rfl (by decide) ?_
    refine z_if_eq (tgt := 39) (pc := 26) C dX5_hex_26 (by decide) ⟨by omega, by omega⟩ (fun c26 => ?_) (fun c26 => ?_)
    · refine z_bipush (pc := 39) C dX5_hex_39 (by decide +kernel) ?_
      refine z_topi (y := (zdg c)) (by unfold zdg; rw [if_neg (by omega), if_neg (by omega)]) ?_
      exact z_iret (pc := 41) C R0 dX5_hex_41 (⟨rfl, rfl⟩)
    · refine z_iload_n (pc := 29) C dX5_hex_29 0 rfl ?_
      refine z_bipush (pc := 30) C dX5_hex_30 (by decide +kernel) ?_
      refine z_isub (pc := 32) C dX5_hex_32 ?_
      refine z_bipush (pc := 33) C dX5_hex_33 (by decide +kernel) ?_
      refine z_iadd (pc := 35) C dX5_hex_35 ?_
      refine z_goto (tgt := 41) (pc := 36) C dX5_hex_36 (by decide) ?_
      refine z_topi (y := (zdg c)) (by unfold zdg; rw [if_neg (by omega), if_pos (by omega)]) ?_
      exact z_iret (pc := 41) C R0 dX5_hex_41 (⟨rfl, rfl⟩)
  · refine z_iload_n (pc := 11) C dX5_hex_11 0 rfl ?_
    refine z_bipush (pc := 12) C dX5_hex_12 (by decide +kernel) ?_
    refine z_isub (pc := 14) C dX5_hex_14 ?_
    refine z_goto (tgt := 41) (pc := 15) C dX5_hex_15 (by decide) ?_
    refine z_topi (y := (zdg c)) (by unfold zdg; rw [if_pos (by omega)]) ?_
    exact z_iret (pc := 41) C R0 dX5_hex_41 (⟨rfl, rfl⟩)

theorem ffX5_readNumber_141 : zFF wsX5_readNumber RX5 141 RX5 TX5 20 8 := ⟨by decide +kernel, by decide, by decide +kernel⟩
theorem nyX5_codeAt : yX5_codeAt.cls ≠ "java/lang/invoke/MethodHandle" ∧ yX5_codeAt.cls ≠ "java/lang/invoke/VarHandle" ∧ (parseMethodDescriptor yX5_codeAt.desc).map (fun d => d.parameters.length) = some 1 := by decide +kernel
set_option maxHeartbeats 4000000 in
set_option maxRecDepth 100000 in
theorem k_X5_readNumber (l : Launch) (G : ZG) (B : Nat → Nat) (q0 q1 q2 q3 q4 q5 q6 q7 : Nat) (T : Nat → Int) (hT : ∀ i, 0 ≤ T i ∧ T i < 65536) (hn : q2 ≤ 60) (hq3 : q3 ≤ 100) : Kt l G yX5_readNumber wsX5_readNumber { frames := 1, cells := 0, slots := 0, locals := 22 } 0 0 False [.ref ((B 0))] [((B 0), .inr (5, [.ref ((B 1)), .ref ((B 2)), .int (iI ((q0 : Int))), .ref ((B 3)), .int (iI ((q1 : Int))), .ref ((B 4)), .ref ((B 5)), .int (iI ((q2 : Int))), .int (iI ((q3 : Int))), .int (iI ((q4 : Int))), .ref ((B 6)), .ref ((B 7)), .int (iI ((q5 : Int))), .int (iI ((q6 : Int))), .ref ((B 8)), .ref ((B 9)), .ref ((B 10)), .ref ((B 11)), .ref ((B 12)), .int (iI ((q7 : Int)))])), cI G (B 5) 60 T] (fun v9 w9 => v9 = some (.int (iI ((znv T q2 q3)))) ∧ w9 = [((B 0), .inr (5, [.ref ((B 1)), .ref ((B 2)), .int (iI ((q0 : Int))), .ref ((B 3)), .int (iI ((q1 : Int))), .ref ((B 4)), .ref ((B 5)), .int (iI ((q2 : Int))), .int (iI ((((q3 + znw T q2 q3) : Nat) : Int))), .int (iI ((q4 : Int))), .ref ((B 6)), .ref ((B 7)), .int (iI ((q5 : Int))), .int (iI ((q6 : Int))), .ref ((B 8)), .ref ((B 9)), .ref ((B 10)), .ref ((B 11)), .ref ((B 12)), .int (iI ((q7 : Int)))])), cI G (B 5) 60 T]) := by
  refine Kt.of (cc := cX5_readNumber) (nL := 2) (ret := (some .int)) (own := RX5) rfl (by decide +kernel) rfl (Nat.le_of_ble_eq_true rfl) ?_
  intro X Y C R0 hin
  show Z l X G Y 2 0 0 0 [(0, .ref ((B 0)))] [] [((B 0), .inr (5, [.ref ((B 1)), .ref ((B 2)), .int (iI ((q0 : Int))), .ref ((B 3)), .int (iI ((q1 : Int))), .ref ((B 4)), .ref ((B 5)), .int (iI ((q2 : Int))), .int (iI ((q3 : Int))), .int (iI ((q4 : Int))), .ref ((B 6)), .ref ((B 7)), .int (iI ((q5 : Int))), .int (iI ((q6 : Int))), .ref ((B 8)), .ref ((B 9)), .ref ((B 10)), .ref ((B 11)), .ref ((B 12)), .int (iI ((q7 : Int)))])), cI G (B 5) 60 T]
  have zb0 := zcx_b hT q2 q3
  have zb1 := zcx_b hT q2 (q3 + 1)
  refine z_aload_n (pc := 0) C dX5_readNumber_0 0 rfl ?_
  refine z_aload_n (pc := 1) C dX5_readNumber_1 0 rfl ?_
  refine z_get (pc := 2) C dX5_readNumber_2 zCl5 ffX5_readNumber_141 0 rfl rfl ?_
  refine z_callV (As := [.int (iI ((q3 : Int)))]) (rest := []) (wc := [((B 0), .inr (5, [.ref ((B 1)), .ref ((B 2)), .int (iI ((q0 : Int))), .ref ((B 3)), .int (iI ((q1 : Int))), .ref ((B 4)), .ref ((B 5)), .int (iI ((q2 : Int))), .int (iI ((q3 : Int))), .int (iI ((q4 : Int))), .ref ((B 6)), .ref ((B 7)), .int (iI ((q5 : Int))), .int (iI ((q6 : Int))), .ref ((B 8)), .ref ((B 9)), .ref ((B 10)), .ref ((B 11)), .ref ((B 12)), .int (iI ((q7 : Int)))])), cI G (B 5) 60 T]) (wr := []) (fs := [.ref ((B 1)), .ref ((B 2)), .int (iI ((q0 : Int))), .ref ((B 3)), .int (iI ((q1 : Int))), .ref ((B 4)), .ref ((B 5)), .int (iI ((q2 : Int))), .int (iI ((q3 : Int))), .int (iI ((q4 : Int))), .ref ((B 6)), .ref ((B 7)), .int (iI ((q5 : Int))), .int (iI ((q6 : Int))), .ref ((B 8)), .ref ((B 9)), .ref ((B 10)), .ref ((B 11)), .ref ((B 12)), .int (iI ((q7 : Int)))]) (pc := 5) C dX5_readNumber_5 (k_X5_codeAt l G B q0 q1 q2 q3 q4 q5 q6 q7 T q3 hn (by omega)) gX5_readNumber_X5_codeAt ⟨⟨_, rfl⟩, ⟨rfl, rfl⟩, nyX5_codeAt, ⟨Nat.le_of_ble_eq_true rfl, Nat.le_of_ble_eq_true rfl⟩⟩ rfl zCl5 rfl (fun h => h) rfl (Nat.le_of_ble_eq_true rfl) [0, 1] [] rfl rfl (by decide) (by decide) (by decide) ⟨Nat.le_of_ble_eq_true rfl, Nat.le_of_ble_eq_true rfl⟩ (fun v w hk => ?_)
  obtain ⟨rfl, rfl⟩ := hk
  refine z_fix (pc2 := 8) (st2 := [.int (iI ((zcx T q2 q3)))]) (ws' := [((B 0), .inr (5, [.ref ((B 1)), .ref ((B 2)), .int (iI ((q0 : Int))), .ref ((B 3)), .int (iI ((q1 : Int))), .ref ((B 4)), .ref ((B 5)), .int (iI ((q2 : Int))), .int (iI ((q3 : Int))), .int (iI ((q4 : Int))), .ref ((B 6)), .ref ((B 7)), .int (iI ((q5 : Int))), .int (iI ((q6 : Int))), .ref ((B 8)), .ref ((B 9)), .ref ((B 10)), .ref ((B 11)), .ref ((B 12)), .int (iI ((q7 : Int)))])), cI G (B 5) 60 T]) [0, 1] rfl rfl rfl (by decide) ?_
  refine z_bipush (pc := 8) C dX5_readNumber_8 (by decide +kernel) ?_
  refine z_bipush (pc := 10) C dX5_readNumber_10 (by decide +kernel) ?_
  refine z_callS (As := [.int (iI ((zcx T q2 q3))), .int (iI 49), .int (iI 57)]) (rest := []) (wc := []) (wr := [((B 0), .inr (5, [.ref ((B 1)), .ref ((B 2)), .int (iI ((q0 : Int))), .ref ((B 3)), .int (iI ((q1 : Int))), .ref ((B 4)), .ref ((B 5)), .int (iI ((q2 : Int))), .int (iI ((q3 : Int))), .int (iI ((q4 : Int))), .ref ((B 6)), .ref ((B 7)), .int (iI ((q5 : Int))), .int (iI ((q6 : Int))), .ref ((B 8)), .ref ((B 9)), .ref ((B 10)), .ref ((B 11)), .ref ((B 12)), .int (iI ((q7 : Int)))])), cI G (B 5) 60 T]) (pc := 12) C dX5_readNumber_12 (k_X5_within l G (zcx T q2 q3) 49 57 ⟨by omega, by omega⟩ (by decide) (by decide)) gX5_readNumber_X5_within ⟨⟨_, rfl⟩, ⟨rfl, rfl⟩, nyX5_within, ⟨Nat.le_of_ble_eq_true rfl, Nat.le_of_ble_eq_true rfl⟩⟩ (fun h => h) rfl (Nat.le_of_ble_eq_true rfl) [] [0, 1] rfl rfl (by decide) (by decide) (by decide) ⟨Nat.le_of_ble_eq_true rfl, Nat.le_of_ble_eq_true rfl⟩ (fun v w hk => ?_)
  obtain ⟨r_12, h12_0, rfl, rfl⟩ := hk
  refine z_fix (pc2 := 15) (st2 := [.int (iI r_12)]) (ws' := [((B 0), .inr (5, [.ref ((B 1)), .ref ((B 2)), .int (iI ((q0 : Int))), .ref ((B 3)), .int (iI ((q1 : Int))), .ref ((B 4)), .ref ((B 5)), .int (iI ((q2 : Int))), .int (iI ((q3 : Int))), .int (iI ((q4 : Int))), .ref ((B 6)), .ref ((B 7)), .int (iI ((q5 : Int))), .int (iI ((q6 : Int))), .ref ((B 8)), .ref ((B 9)), .ref ((B 10)), .ref ((B 11)), .ref ((B 12)), .int (iI ((q7 : Int)))])), cI G (B 5) 60 T]) [0, 1] rfl rfl rfl (by decide) ?_
  refine z_if_ne (tgt := 20) (pc := 15) C dX5_readNumber_15 (by decide) ⟨by omega, by omega⟩ (fun c15 => ?_) (fun c15 => ?_)
  · have hd1 : 49 ≤ zcx T q2 q3 ∧ zcx T q2 q3 ≤ 57 := by omega
    refine z_aload_n (pc := 20) C dX5_readNumber_20 0 rfl ?_
    refine z_aload_n (pc := 21) C dX5_readNumber_21 0 rfl ?_
    refine z_get (pc := 22) C dX5_readNumber_22 zCl5 ffX5_readNumber_141 0 rfl rfl ?_
    refine z_callV (As := [.int (iI ((q3 : Int)))]) (rest := []) (wc := [((B 0), .inr (5, [.ref ((B 1)), .ref ((B 2)), .int (iI ((q0 : Int))), .ref ((B 3)), .int (iI ((q1 : Int))), .ref ((B 4)), .ref ((B 5)), .int (iI ((q2 : Int))), .int (iI ((q3 : Int))), .int (iI ((q4 : Int))), .ref ((B 6)), .ref ((B 7)), .int (iI ((q5 : Int))), .int (iI ((q6 : Int))), .ref ((B 8)), .ref ((B 9)), .ref ((B 10)), .ref ((B 11)), .ref ((B 12)), .int (iI ((q7 : Int)))])), cI G (B 5) 60 T]) (wr := []) (fs := [.ref ((B 1)), .ref ((B 2)), .int (iI ((q0 : Int))), .ref ((B 3)), .int (iI ((q1 : Int))), .ref ((B 4)), .ref ((B 5)), .int (iI ((q2 : Int))), .int (iI ((q3 : Int))), .int (iI ((q4 : Int))), .ref ((B 6)), .ref ((B 7)), .int (iI ((q5 : Int))), .int (iI ((q6 : Int))), .ref ((B 8)), .ref ((B 9)), .ref ((B 10)), .ref ((B 11)), .ref ((B 12)), .int (iI ((q7 : Int)))]) (pc := 25) C dX5_readNumber_25 (k_X5_codeAt l G B q0 q1 q2 q3 q4 q5 q6 q7 T q3 hn (by omega)) gX5_readNumber_X5_codeAt ⟨⟨_, rfl⟩, ⟨rfl, rfl⟩, nyX5_codeAt, ⟨Nat.le_of_ble_eq_true rfl, Nat.le_of_ble_eq_true rfl⟩⟩ rfl zCl5 rfl (fun h => h) rfl (Nat.le_of_ble_eq_true rfl) [0, 1] [] rfl rfl (by decide) (by decide) (by decide) ⟨Nat.le_of_ble_eq_true rfl, Nat.le_of_ble_eq_true rfl⟩ (fun v w hk => ?_)
    obtain ⟨rfl, rfl⟩ := hk
    refine z_fix (pc2 := 28) (st2 := [.int (iI ((zcx T q2 q3)))]) (ws' := [((B 0), .inr (5, [.ref ((B 1)), .ref ((B 2)), .int (iI ((q0 : Int))), .ref ((B 3)), .int (iI ((q1 : Int))), .ref ((B 4)), .ref ((B 5)), .int (iI ((q2 : Int))), .int (iI ((q3 : Int))), .int (iI ((q4 : Int))), .ref ((B 6)), .ref ((B 7)), .int (iI ((q5 : Int))), .int (iI ((q6 : Int))), .ref ((B 8)), .ref ((B 9)), .ref ((B 10)), .ref ((B 11)), .ref ((B 12)), .int (iI ((q7 : Int)))])), cI G (B 5) 60 T]) [0, 1] rfl rfl rfl (by decide) ?_
    refine z_bipush (pc := 28) C dX5_readNumber_28 (by decide +kernel) ?_
    refine z_isub (pc := 30) C dX5_readNumber_30 ?_
    refine z_istore_n (lv' := [(1, .int (iI (((zcx T q2 q3) - 48)))), (0, .ref ((B 0)))]) (pc := 31) C dX5_readNumber_31 (by decide) rfl ?_
    refine z_aload_n (pc := 32) C dX5_readNumber_32 1 rfl ?_
    refine z_dup (pc := 33) C dX5_readNumber_33 rfl ?_
    refine z_get (pc := 34) C dX5_readNumber_34 zCl5 ffX5_readNumber_141 0 rfl rfl ?_
    refine z_iconst (pc := 37) C dX5_readNumber_37 ?_
    refine z_iadd (pc := 38) C dX5_readNumber_38 ?_
    refine z_put (ty := .int) (ws' := [((B 0), .inr (5, [.ref ((B 1)), .ref ((B 2)), .int (iI ((q0 : Int))), .ref ((B 3)), .int (iI ((q1 : Int))), .ref ((B 4)), .ref ((B 5)), .int (iI ((q2 : Int))), .int (iI (((q3 : Int) + 1))), .int (iI ((q4 : Int))), .ref ((B 6)), .ref ((B 7)), .int (iI ((q5 : Int))), .int (iI ((q6 : Int))), .ref ((B 8)), .ref ((B 9)), .ref ((B 10)), .ref ((B 11)), .ref ((B 12)), .int (iI ((q7 : Int)))])), cI G (B 5) 60 T]) (pc := 39) C dX5_readNumber_39 zCl5 ffX5_readNumber_141 0 rfl rfl rfl rfl rfl (Nat.le_of_ble_eq_true rfl) rfl ?_
    refine z_aload_n (pc := 42) C dX5_readNumber_42 1 rfl ?_
    refine z_aload_n (pc := 43) C dX5_readNumber_43 1 rfl ?_
    refine z_get (pc := 44) C dX5_readNumber_44 zCl5 ffX5_readNumber_141 0 rfl rfl ?_
    refine z_callV (As := [.int (iI (((q3 : Int) + 1)))]) (rest := []) (wc := [((B 0), .inr (5, [.ref ((B 1)), .ref ((B 2)), .int (iI ((q0 : Int))), .ref ((B 3)), .int (iI ((q1 : Int))), .ref ((B 4)), .ref ((B 5)), .int (iI ((q2 : Int))), .int (iI ((((q3 + 1) : Nat) : Int))), .int (iI ((q4 : Int))), .ref ((B 6)), .ref ((B 7)), .int (iI ((q5 : Int))), .int (iI ((q6 : Int))), .ref ((B 8)), .ref ((B 9)), .ref ((B 10)), .ref ((B 11)), .ref ((B 12)), .int (iI ((q7 : Int)))])), cI G (B 5) 60 T]) (wr := []) (fs := [.ref ((B 1)), .ref ((B 2)), .int (iI ((q0 : Int))), .ref ((B 3)), .int (iI ((q1 : Int))), .ref ((B 4)), .ref ((B 5)), .int (iI ((q2 : Int))), .int (iI ((((q3 + 1) : Nat) : Int))), .int (iI ((q4 : Int))), .ref ((B 6)), .ref ((B 7)), .int (iI ((q5 : Int))), .int (iI ((q6 : Int))), .ref ((B 8)), .ref ((B 9)), .ref ((B 10)), .ref ((B 11)), .ref ((B 12)), .int (iI ((q7 : Int)))]) (pc := 47) C dX5_readNumber_47 (k_X5_codeAt l G B q0 q1 q2 (q3 + 1) q4 q5 q6 q7 T (q3 + 1) hn (by omega)) gX5_readNumber_X5_codeAt ⟨⟨_, rfl⟩, ⟨rfl, rfl⟩, nyX5_codeAt, ⟨Nat.le_of_ble_eq_true rfl, Nat.le_of_ble_eq_true rfl⟩⟩ rfl zCl5 rfl (fun h => h) rfl (Nat.le_of_ble_eq_true rfl) [0, 1] [] rfl rfl (by decide) (by decide) (by decide) ⟨Nat.le_of_ble_eq_true rfl, Nat.le_of_ble_eq_true rfl⟩ (fun v w hk => ?_)
    obtain ⟨rfl, rfl⟩ := hk
    refine z_fix (pc2 := 50) (st2 := [.int (iI ((zcx T q2 (q3 + 1))))]) (ws' := [((B 0), .inr (5, [.ref ((B 1)), .ref ((B 2)), .int (iI ((q0 : Int))), .ref ((B 3)), .int (iI ((q1 : Int))), .ref ((B 4)), .ref ((B 5)), .int (iI ((q2 : Int))), .int (iI ((((q3 + 1) : Nat) : Int))), .int (iI ((q4 : Int))), .ref ((B 6)), .ref ((B 7)), .int (iI ((q5 : Int))), .int (iI ((q6 : Int))), .ref ((B 8)), .ref ((B 9)), .ref ((B 10)), .ref ((B 11)), .ref ((B 12)), .int (iI ((q7 : Int)))])), cI G (B 5) 60 T]) [0, 1] rfl rfl rfl (by decide) ?_
    refine z_bipush (pc := 50) C dX5_readNumber_50 (by decide +kernel) ?_
    refine z_bipush (pc := 52) C dX5_readNumber_52 (by decide +kernel) ?_
    refine z_callS (As := [.int (iI ((zcx T q2 (q3 + 1)))), .int (iI 48), .int (iI 57)]) (rest := []) (wc := []) (wr := [((B 0), .inr (5, [.ref ((B 1)), .ref ((B 2)), .int (iI ((q0 : Int))), .ref ((B 3)), .int (iI ((q1 : Int))), .ref ((B 4)), .ref ((B 5)), .int (iI ((q2 : Int))), .int (iI ((((q3 + 1) : Nat) : Int))), .int (iI ((q4 : Int))), .ref ((B 6)), .ref ((B 7)), .int (iI ((q5 : Int))), .int (iI ((q6 : Int))), .ref ((B 8)), .ref ((B 9)), .ref ((B 10)), .ref ((B 11)), .ref ((B 12)), .int (iI ((q7 : Int)))])), cI G (B 5) 60 T]) (pc := 54) C dX5_readNumber_54 (k_X5_within l G (zcx T q2 (q3 + 1)) 48 57 ⟨by omega, by omega⟩ (by decide) (by decide)) gX5_readNumber_X5_within ⟨⟨_, rfl⟩, ⟨rfl, rfl⟩, nyX5_within, ⟨Nat.le_of_ble_eq_true rfl, Nat.le_of_ble_eq_true rfl⟩⟩ (fun h => h) rfl (Nat.le_of_ble_eq_true rfl) [] [0, 1] rfl rfl (by decide) (by decide) (by decide) ⟨Nat.le_of_ble_eq_true rfl, Nat.le_of_ble_eq_true rfl⟩ (fun v w hk => ?_)
    obtain ⟨r_54, h54_0, rfl, rfl⟩ := hk
    refine z_fix (pc2 := 57) (st2 := [.int (iI r_54)]) (ws' := [((B 0), .inr (5, [.ref ((B 1)), .ref ((B 2)), .int (iI ((q0 : Int))), .ref ((B 3)), .int (iI ((q1 : Int))), .ref ((B 4)), .ref ((B 5)), .int (iI ((q2 : Int))), .int (iI ((((q3 + 1) : Nat) : Int))), .int (iI ((q4 : Int))), .ref ((B 6)), .ref ((B 7)), .int (iI ((q5 : Int))), .int (iI ((q6 : Int))), .ref ((B 8)), .ref ((B 9)), .ref ((B 10)), .ref ((B 11)), .ref ((B 12)), .int (iI ((q7 : Int)))])), cI G (B 5) 60 T]) [0, 1] rfl rfl rfl (by decide) ?_
    refine z_if_eq (tgt := 87) (pc := 57) C dX5_readNumber_57 (by decide) ⟨by omega, by omega⟩ (fun c57 => ?_) (fun c57 => ?_)
    · have hd2 : ¬ (48 ≤ zcx T q2 (q3 + 1) ∧ zcx T q2 (q3 + 1) ≤ 57) := by omega
      have hnw : znw T q2 q3 = 1 := (if_pos hd1).trans (if_neg hd2)
      have hnv : znv T q2 q3 = zcx T q2 q3 - 48 := (if_pos hd1).trans (if_neg hd2)
      refine z_iload_n (pc := 87) C dX5_readNumber_87 0 rfl ?_
      refine z_ws (ws' := [((B 0), .inr (5, [.ref ((B 1)), .ref ((B 2)), .int (iI ((q0 : Int))), .ref ((B 3)), .int (iI ((q1 : Int))), .ref ((B 4)), .ref ((B 5)), .int (iI ((q2 : Int))), .int (iI ((((q3 + znw T q2 q3) : Nat) : Int))), .int (iI ((q4 : Int))), .ref ((B 6)), .ref ((B 7)), .int (iI ((q5 : Int))), .int (iI ((q6 : Int))), .ref ((B 8)), .ref ((B 9)), .ref ((B 10)), .ref ((B 11)), .ref ((B 12)), .int (iI ((q7 : Int)))])), cI G (B 5) 60 T]) [0, 1] (by rw [hnw]; rfl) (by decide) ?_
      refine z_topi (y := (znv T q2 q3)) (hnv.symm) ?_
      exact z_iret (pc := 88) C R0 dX5_readNumber_88 (⟨rfl, rfl⟩)
    · have hd2 : 48 ≤ zcx T q2 (q3 + 1) ∧ zcx T q2 (q3 + 1) ≤ 57 := by omega
      have hnw : znw T q2 q3 = 2 := (if_pos hd1).trans (if_pos hd2)
      have hnv : znv T q2 q3 = 10 * (zcx T q2 q3 - 48) + zcx T q2 (q3 + 1) - 48 := (if_pos hd1).trans (if_pos hd2)
      refine z_bipush (pc := 60) C dX5_readNumber_60 (by decide +kernel) ?_
      refine z_iload_n (pc := 62) C dX5_readNumber_62 0 rfl ?_
      refine z_imul (pc := 63) C dX5_readNumber_63 ?_
      refine z_aload_n (pc := 64) C dX5_readNumber_64 1 rfl ?_
      refine z_aload_n (pc := 65) C dX5_readNumber_65 1 rfl ?_
      refine z_get (pc := 66) C dX5_readNumber_66 zCl5 ffX5_readNumber_141 0 rfl rfl ?_
      refine z_callV (As := [.int (iI ((((q3 + 1) : Nat) : Int)))]) (rest := [.int (iI ((10 * ((zcx T q2 q3) - 48))))]) (wc := [((B 0), .inr (5, [.ref ((B 1)), .ref ((B 2)), .int (iI ((q0 : Int))), .ref ((B 3)), .int (iI ((q1 : Int))), .ref ((B 4)), .ref ((B 5)), .int (iI ((q2 : Int))), .int (iI ((((q3 + 1) : Nat) : Int))), .int (iI ((q4 : Int))), .ref ((B 6)), .ref ((B 7)), .int (iI ((q5 : Int))), .int (iI ((q6 : Int))), .ref ((B 8)), .ref ((B 9)), .ref ((B 10)), .ref ((B 11)), .ref ((B 12)), .int (iI ((q7 : Int)))])), cI G (B 5) 60 T]) (wr := []) (fs := [.ref ((B 1)), .ref ((B 2)), .int (iI ((q0 : Int))), .ref ((B 3)), .int (iI ((q1 : Int))), .ref ((B 4)), .ref ((B 5)), .int (iI ((q2 : Int))), .int (iI ((((q3 + 1) : Nat) : Int))), .int (iI ((q4 : Int))), .ref ((B 6)), .ref ((B 7)), .int (iI ((q5 : Int))), .int (iI ((q6 : Int))), .ref ((B 8)), .ref ((B 9)), .ref ((B 10)), .ref ((B 11)), .ref ((B 12)), .int (iI ((q7 : Int)))]) (pc := 69) C dX5_readNumber_69 (k_X5_codeAt l G B q0 q1 q2 (q3 + 1) q4 q5 q6 q7 T (q3 + 1) hn (by omega)) gX5_readNumber_X5_codeAt ⟨⟨_, rfl⟩, ⟨rfl, rfl⟩, nyX5_codeAt, ⟨Nat.le_of_ble_eq_true rfl, Nat.le_of_ble_eq_true rfl⟩⟩ rfl zCl5 rfl (fun h => h) rfl (Nat.le_of_ble_eq_true rfl) [0, 1] [] rfl rfl (by decide) (by decide) (by decide) ⟨Nat.le_of_ble_eq_true rfl, Nat.le_of_ble_eq_true rfl⟩ (fun v w hk => ?_)
      obtain ⟨rfl, rfl⟩ := hk
      refine z_fix (pc2 := 72) (st2 := [.int (iI ((zcx T q2 (q3 + 1)))), .int (iI ((10 * ((zcx T q2 q3) - 48))))]) (ws' := [((B 0), .inr (5, [.ref ((B 1)), .ref ((B 2)), .int (iI ((q0 : Int))), .ref ((B 3)), .int (iI ((q1 : Int))), .ref ((B 4)), .ref ((B 5)), .int (iI ((q2 : Int))), .int (iI ((((q3 + 1) : Nat) : Int))), .int (iI ((q4 : Int))), .ref ((B 6)), .ref ((B 7)), .int (iI ((q5 : Int))), .int (iI ((q6 : Int))), .ref ((B 8)), .ref ((B 9)), .ref ((B 10)), .ref ((B 11)), .ref ((B 12)), .int (iI ((q7 : Int)))])), cI G (B 5) 60 T]) [0, 1] rfl rfl rfl (by decide) ?_
      refine z_iadd (pc := 72) C dX5_readNumber_72 ?_
      refine z_bipush (pc := 73) C dX5_readNumber_73 (by decide +kernel) ?_
      refine z_isub (pc := 75) C dX5_readNumber_75 ?_
      refine z_istore_n (lv' := [(1, .int (iI ((((10 * ((zcx T q2 q3) - 48)) + (zcx T q2 (q3 + 1))) - 48)))), (0, .ref ((B 0)))]) (pc := 76) C dX5_readNumber_76 (by decide) rfl ?_
      refine z_aload_n (pc := 77) C dX5_readNumber_77 1 rfl ?_
      refine z_dup (pc := 78) C dX5_readNumber_78 rfl ?_
      refine z_get (pc := 79) C dX5_readNumber_79 zCl5 ffX5_readNumber_141 0 rfl rfl ?_
      refine z_iconst (pc := 82) C dX5_readNumber_82 ?_
      refine z_iadd (pc := 83) C dX5_readNumber_83 ?_
      refine z_put (ty := .int) (ws' := [((B 0), .inr (5, [.ref ((B 1)), .ref ((B 2)), .int (iI ((q0 : Int))), .ref ((B 3)), .int (iI ((q1 : Int))), .ref ((B 4)), .ref ((B 5)), .int (iI ((q2 : Int))), .int (iI (((((q3 + 1) : Nat) : Int) + 1))), .int (iI ((q4 : Int))), .ref ((B 6)), .ref ((B 7)), .int (iI ((q5 : Int))), .int (iI ((q6 : Int))), .ref ((B 8)), .ref ((B 9)), .ref ((B 10)), .ref ((B 11)), .ref ((B 12)), .int (iI ((q7 : Int)))])), cI G (B 5) 60 T]) (pc := 84) C dX5_readNumber_84 zCl5 ffX5_readNumber_141 0 rfl rfl rfl rfl rfl (Nat.le_of_ble_eq_true rfl) rfl ?_
      refine z_iload_n (pc := 87) C dX5_readNumber_87 0 rfl ?_
      refine z_ws (ws' := [((B 0), .inr (5, [.ref ((B 1)), .ref ((B 2)), .int (iI ((q0 : Int))), .ref ((B 3)), .int (iI ((q1 : Int))), .ref ((B 4)), .ref ((B 5)), .int (iI ((q2 : Int))), .int (iI ((((q3 + znw T q2 q3) : Nat) : Int))), .int (iI ((q4 : Int))), .ref ((B 6)), .ref ((B 7)), .int (iI ((q5 : Int))), .int (iI ((q6 : Int))), .ref ((B 8)), .ref ((B 9)), .ref ((B 10)), .ref ((B 11)), .ref ((B 12)), .int (iI ((q7 : Int)))])), cI G (B 5) 60 T]) [0, 1] (by rw [hnw]; rfl) (by decide) ?_
      refine z_topi (y := (znv T q2 q3)) (hnv.symm) ?_
      exact z_iret (pc := 88) C R0 dX5_readNumber_88 (⟨rfl, rfl⟩)
  · have hnw : znw T q2 q3 = 0 := if_neg (by omega)
    have hnv : znv T q2 q3 = 0 := if_neg (by omega)
    refine z_iconst (pc := 18) C dX5_readNumber_18 ?_
    refine z_ws (ws' := [((B 0), .inr (5, [.ref ((B 1)), .ref ((B 2)), .int (iI ((q0 : Int))), .ref ((B 3)), .int (iI ((q1 : Int))), .ref ((B 4)), .ref ((B 5)), .int (iI ((q2 : Int))), .int (iI ((((q3 + znw T q2 q3) : Nat) : Int))), .int (iI ((q4 : Int))), .ref ((B 6)), .ref ((B 7)), .int (iI ((q5 : Int))), .int (iI ((q6 : Int))), .ref ((B 8)), .ref ((B 9)), .ref ((B 10)), .ref ((B 11)), .ref ((B 12)), .int (iI ((q7 : Int)))])), cI G (B 5) 60 T]) [0, 1] (by rw [hnw]; rfl) (by decide) ?_
    refine z_topi (y := (znv T q2 q3)) (hnv.symm) ?_
    exact z_iret (pc := 19) C R0 dX5_readNumber_19 (⟨rfl, rfl⟩)

theorem ffX5_isRepeat_141 : zFF wsX5_isRepeat RX5 141 RX5 TX5 20 8 := ⟨by decide +kernel, by decide, by decide +kernel⟩
set_option maxHeartbeats 4000000 in
set_option maxRecDepth 100000 in
theorem k_X5_isRepeat (l : Launch) (G : ZG) (B : Nat → Nat) (q0 q1 q2 q3 q4 q5 q6 q7 : Nat) (T : Nat → Int) (hT : ∀ i, 0 ≤ T i ∧ T i < 65536) (hn : q2 ≤ 60) (hq3 : q3 ≤ 100) : Kt l G yX5_isRepeat wsX5_isRepeat { frames := 1, cells := 0, slots := 0, locals := 22 } 0 0 False [.ref ((B 0))] [((B 0), .inr (5, [.ref ((B 1)), .ref ((B 2)), .int (iI ((q0 : Int))), .ref ((B 3)), .int (iI ((q1 : Int))), .ref ((B 4)), .ref ((B 5)), .int (iI ((q2 : Int))), .int (iI ((q3 : Int))), .int (iI ((q4 : Int))), .ref ((B 6)), .ref ((B 7)), .int (iI ((q5 : Int))), .int (iI ((q6 : Int))), .ref ((B 8)), .ref ((B 9)), .ref ((B 10)), .ref ((B 11)), .ref ((B 12)), .int (iI ((q7 : Int)))])), cI G (B 5) 60 T] (fun v9 w9 => ∃ (r : Int), ((r = 1 ∧ zrpt T q2 q3) ∨ (r = 0 ∧ ¬ zrpt T q2 q3)) ∧ v9 = some (.int (iI r)) ∧ w9 = [((B 0), .inr (5, [.ref ((B 1)), .ref ((B 2)), .int (iI ((q0 : Int))), .ref ((B 3)), .int (iI ((q1 : Int))), .ref ((B 4)), .ref ((B 5)), .int (iI ((q2 : Int))), .int (iI ((q3 : Int))), .int (iI ((q4 : Int))), .ref ((B 6)), .ref ((B 7)), .int (iI ((q5 : Int))), .int (iI ((q6 : Int))), .ref ((B 8)), .ref ((B 9)), .ref ((B 10)), .ref ((B 11)), .ref ((B 12)), .int (iI ((q7 : Int)))])), cI G (B 5) 60 T]) := by
  refine Kt.of (cc := cX5_isRepeat) (nL := 1) (ret := (some .boolean)) (own := RX5) rfl (by decide +kernel) rfl (Nat.le_of_ble_eq_true rfl) ?_
  intro X Y C R0 hin
  show Z l X G Y 1 0 0 0 [(0, .ref ((B 0)))] [] [((B 0), .inr (5, [.ref ((B 1)), .ref ((B 2)), .int (iI ((q0 : Int))), .ref ((B 3)), .int (iI ((q1 : Int))), .ref ((B 4)), .ref ((B 5)), .int (iI ((q2 : Int))), .int (iI ((q3 : Int))), .int (iI ((q4 : Int))), .ref ((B 6)), .ref ((B 7)), .int (iI ((q5 : Int))), .int (iI ((q6 : Int))), .ref ((B 8)), .ref ((B 9)), .ref ((B 10)), .ref ((B 11)), .ref ((B 12)), .int (iI ((q7 : Int)))])), cI G (B 5) 60 T]
  have zb0 := zcx_b hT q2 q3
  have zb1 := zcx_b hT q2 (q3 + 1)
  refine z_aload_n (pc := 0) C dX5_isRepeat_0 0 rfl ?_
  refine z_aload_n (pc := 1) C dX5_isRepeat_1 0 rfl ?_
  refine z_get (pc := 2) C dX5_isRepeat_2 zCl5 ffX5_isRepeat_141 0 rfl rfl ?_
  refine z_callV (As := [.int (iI ((q3 : Int)))]) (rest := []) (wc := [((B 0), .inr (5, [.ref ((B 1)), .ref ((B 2)), .int (iI ((q0 : Int))), .ref ((B 3)), .int (iI ((q1 : Int))), .ref ((B 4)), .ref ((B 5)), .int (iI ((q2 : Int))), .int (iI ((q3 : Int))), .int (iI ((q4 : Int))), .ref ((B 6)), .ref ((B 7)), .int (iI ((q5 : Int))), .int (iI ((q6 : Int))), .ref ((B 8)), .ref ((B 9)), .ref ((B 10)), .ref ((B 11)), .ref ((B 12)), .int (iI ((q7 : Int)))])), cI G (B 5) 60 T]) (wr := []) (fs := [.ref ((B 1)), .ref ((B 2)), .int (iI ((q0 : Int))), .ref ((B 3)), .int (iI ((q1 : Int))), .ref ((B 4)), .ref ((B 5)), .int (iI ((q2 : Int))), .int (iI ((q3 : Int))), .int (iI ((q4 : Int))), .ref ((B 6)), .ref ((B 7)), .int (iI ((q5 : Int))), .int (iI ((q6 : Int))), .ref ((B 8)), .ref ((B 9)), .ref ((B 10)), .ref ((B 11)), .ref ((B 12)), .int (iI ((q7 : Int)))]) (pc := 5) C dX5_isRepeat_5 (k_X5_codeAt l G B q0 q1 q2 q3 q4 q5 q6 q7 T q3 hn (by omega)) gX5_isRepeat_X5_codeAt ⟨⟨_, rfl⟩, ⟨rfl, rfl⟩, nyX5_codeAt, ⟨Nat.le_of_ble_eq_true rfl, Nat.le_of_ble_eq_true rfl⟩⟩ rfl zCl5 rfl (fun h => h) rfl (Nat.le_of_ble_eq_true rfl) [0, 1] [] rfl rfl (by decide) (by decide) (by decide) ⟨Nat.le_of_ble_eq_true rfl, Nat.le_of_ble_eq_true rfl⟩ (fun v w hk => ?_)
  obtain ⟨rfl, rfl⟩ := hk
  refine z_fix (pc2 := 8) (st2 := [.int (iI ((zcx T q2 q3)))]) (ws' := [((B 0), .inr (5, [.ref ((B 1)), .ref ((B 2)), .int (iI ((q0 : Int))), .ref ((B 3)), .int (iI ((q1 : Int))), .ref ((B 4)), .ref ((B 5)), .int (iI ((q2 : Int))), .int (iI ((q3 : Int))), .int (iI ((q4 : Int))), .ref ((B 6)), .ref ((B 7)), .int (iI ((q5 : Int))), .int (iI ((q6 : Int))), .ref ((B 8)), .ref ((B 9)), .ref ((B 10)), .ref ((B 11)), .ref ((B 12)), .int (iI ((q7 : Int)))])), cI G (B 5) 60 T]) [0, 1] rfl rfl rfl (by decide) ?_
  refine z_bipush (pc := 8) C dX5_isRepeat_8 (by decide +kernel) ?_
  refine z_bipush (pc := 10) C dX5_isRepeat_10 (by decide +kernel) ?_
  refine z_callS (As := [.int (iI ((zcx T q2 q3))), .int (iI 50), .int (iI 57)]) (rest := []) (wc := []) (wr := [((B 0), .inr (5, [.ref ((B 1)), .ref ((B 2)), .int (iI ((q0 : Int))), .ref ((B 3)), .int (iI ((q1 : Int))), .ref ((B 4)), .ref ((B 5)), .int (iI ((q2 : Int))), .int (iI ((q3 : Int))), .int (iI ((q4 : Int))), .ref ((B 6)), .ref ((B 7)), .int (iI ((q5 : Int))), .int (iI ((q6 : Int))), .ref ((B 8)), .ref ((B 9)), .ref ((B 10)), .ref ((B 11)), .ref ((B 12)), .int (iI ((q7 : Int)))])), cI G (B 5) 60 T]) (pc := 12) C dX5_isRepeat_12 (k_X5_within l G (zcx T q2 q3) 50 57 ⟨by omega, by omega⟩ (by decide) (by decide)) gX5_isRepeat_X5_within ⟨⟨_, rfl⟩, ⟨rfl, rfl⟩, nyX5_within, ⟨Nat.le_of_ble_eq_true rfl, Nat.le_of_ble_eq_true rfl⟩⟩ (fun h => h) rfl (Nat.le_of_ble_eq_true rfl) [] [0, 1] rfl rfl (by decide) (by decide) (by decide) ⟨Nat.le_of_ble_eq_true rfl, Nat.le_of_ble_eq_true rfl⟩ (fun v w hk => ?_)
  obtain ⟨r_12, h12_0, rfl, rfl⟩ := hk
  refine z_fix (pc2 := 15) (st2 := [.int (iI r_12)]) (ws' := [((B 0), .inr (5, [.ref ((B 1)), .ref ((B 2)), .int (iI ((q0 : Int))), .ref ((B 3)), .int (iI ((q1 : Int))), .ref ((B 4)), .ref ((B 5)), .int (iI ((q2 : Int))), .int (iI ((q3 : Int))), .int (iI ((q4 : Int))), .ref ((B 6)), .ref ((B 7)), .int (iI ((q5 : Int))), .int (iI ((q6 : Int))), .ref ((B 8)), .ref ((B 9)), .ref ((B 10)), .ref ((B 11)), .ref ((B 12)), .int (iI ((q7 : Int)))])), cI G (B 5) 60 T]) [0, 1] rfl rfl rfl (by decide) ?_
  refine z_if_eq (tgt := 37) (pc := 15) C dX5_isRepeat_15 (by decide) ⟨by omega, by omega⟩ (fun c15 => ?_) (fun c15 => ?_)
  · refine z_iconst (pc := 37) C dX5_isRepeat_37 ?_
    exact z_zret (pc := 38) C R0 (by decide) dX5_isRepeat_38 (⟨0, Or.inr ⟨rfl, fun q => by have := q.1; omega⟩, rfl, rfl⟩)
  · refine z_aload_n (pc := 18) C dX5_isRepeat_18 0 rfl ?_
    refine z_aload_n (pc := 19) C dX5_isRepeat_19 0 rfl ?_
    refine z_get (pc := 20) C dX5_isRepeat_20 zCl5 ffX5_isRepeat_141 0 rfl rfl ?_
    refine z_iconst (pc := 23) C dX5_isRepeat_23 ?_
    refine z_iadd (pc := 24) C dX5_isRepeat_24 ?_
    refine z_callV (As := [.int (iI (((q3 : Int) + 1)))]) (rest := []) (wc := [((B 0), .inr (5, [.ref ((B 1)), .ref ((B 2)), .int (iI ((q0 : Int))), .ref ((B 3)), .int (iI ((q1 : Int))), .ref ((B 4)), .ref ((B 5)), .int (iI ((q2 : Int))), .int (iI ((q3 : Int))), .int (iI ((q4 : Int))), .ref ((B 6)), .ref ((B 7)), .int (iI ((q5 : Int))), .int (iI ((q6 : Int))), .ref ((B 8)), .ref ((B 9)), .ref ((B 10)), .ref ((B 11)), .ref ((B 12)), .int (iI ((q7 : Int)))])), cI G (B 5) 60 T]) (wr := []) (fs := [.ref ((B 1)), .ref ((B 2)), .int (iI ((q0 : Int))), .ref ((B 3)), .int (iI ((q1 : Int))), .ref ((B 4)), .ref ((B 5)), .int (iI ((q2 : Int))), .int (iI ((q3 : Int))), .int (iI ((q4 : Int))), .ref ((B 6)), .ref ((B 7)), .int (iI ((q5 : Int))), .int (iI ((q6 : Int))), .ref ((B 8)), .ref ((B 9)), .ref ((B 10)), .ref ((B 11)), .ref ((B 12)), .int (iI ((q7 : Int)))]) (pc := 25) C dX5_isRepeat_25 (k_X5_codeAt l G B q0 q1 q2 q3 q4 q5 q6 q7 T (q3 + 1) hn (by omega)) gX5_isRepeat_X5_codeAt ⟨⟨_, rfl⟩, ⟨rfl, rfl⟩, nyX5_codeAt, ⟨Nat.le_of_ble_eq_true rfl, Nat.le_of_ble_eq_true rfl⟩⟩ rfl zCl5 rfl (fun h => h) rfl (Nat.le_of_ble_eq_true rfl) [0, 1] [] rfl rfl (by decide) (by decide) (by decide) ⟨Nat.le_of_ble_eq_true rfl, Nat.le_of_ble_eq_true rfl⟩ (fun v w hk => ?_)
    obtain ⟨rfl, rfl⟩ := hk
    refine z_fix (pc2 := 28) (st2 := [.int (iI ((zcx T q2 (q3 + 1))))]) (ws' := [((B 0), .inr (5, [.ref ((B 1)), .ref ((B 2)), .int (iI ((q0 : Int))), .ref ((B 3)), .int (iI ((q1 : Int))), .ref ((B 4)), .ref ((B 5)), .int (iI ((q2 : Int))), .int (iI ((q3 : Int))), .int (iI ((q4 : Int))), .ref ((B 6)), .ref ((B 7)), .int (iI ((q5 : Int))), .int (iI ((q6 : Int))), .ref ((B 8)), .ref ((B 9)), .ref ((B 10)), .ref ((B 11)), .ref ((B 12)), .int (iI ((q7 : Int)))])), cI G (B 5) 60 T]) [0, 1] rfl rfl rfl (by decide) ?_
    refine z_bipush (pc := 28) C dX5_isRepeat_28 (by decide +kernel) ?_
    refine z_icmp_ne (tgt := 37) (pc := 30) C dX5_isRepeat_30 (by decide) ⟨by omega, by omega⟩ (by decide) (fun c30 => ?_) (fun c30 => ?_)
    · refine z_iconst (pc := 37) C dX5_isRepeat_37 ?_
      exact z_zret (pc := 38) C R0 (by decide) dX5_isRepeat_38 (⟨0, Or.inr ⟨rfl, fun q => by have := q.2; omega⟩, rfl, rfl⟩)
    · refine z_iconst (pc := 33) C dX5_isRepeat_33 ?_
      refine z_goto (tgt := 38) (pc := 34) C dX5_isRepeat_34 (by decide) ?_
      exact z_zret (pc := 38) C R0 (by decide) dX5_isRepeat_38 (⟨1, Or.inl ⟨rfl, by omega, by omega⟩, rfl, rfl⟩)

theorem ffX5_passesItem_141 : zFF wsX5_passesItem RX5 141 RX5 TX5 20 8 := ⟨by decide +kernel, by decide, by decide +kernel⟩
theorem nyX5_readNumber : yX5_readNumber.cls ≠ "java/lang/invoke/MethodHandle" ∧ yX5_readNumber.cls ≠ "java/lang/invoke/VarHandle" ∧ (parseMethodDescriptor yX5_readNumber.desc).map (fun d => d.parameters.length) = some 0 := by decide +kernel
theorem nyX5_hex : yX5_hex.cls ≠ "java/lang/invoke/MethodHandle" ∧ yX5_hex.cls ≠ "java/lang/invoke/VarHandle" ∧ (parseMethodDescriptor yX5_hex.desc).map (fun d => d.parameters.length) = some 1 := by decide +kernel
set_option maxHeartbeats 4000000 in
set_option maxRecDepth 100000 in
theorem k_X5_passesItem (l : Launch) (G : ZG) (B : Nat → Nat) (q0 q1 q2 q3 q4 q5 q6 q7 : Nat) (T : Nat → Int) (hT : ∀ i, 0 ≤ T i ∧ T i < 65536) (hn : q2 ≤ 60) (hq3 : q3 ≤ 90) : Kt l G yX5_passesItem wsX5_passesItem { frames := 2, cells := 0, slots := 0, locals := 43 } 0 0 False [.ref ((B 0))] [((B 0), .inr (5, [.ref ((B 1)), .ref ((B 2)), .int (iI ((q0 : Int))), .ref ((B 3)), .int (iI ((q1 : Int))), .ref ((B 4)), .ref ((B 5)), .int (iI ((q2 : Int))), .int (iI ((q3 : Int))), .int (iI ((q4 : Int))), .ref ((B 6)), .ref ((B 7)), .int (iI ((q5 : Int))), .int (iI ((q6 : Int))), .ref ((B 8)), .ref ((B 9)), .ref ((B 10)), .ref ((B 11)), .ref ((B 12)), .int (iI ((q7 : Int)))])), cI G (B 5) 60 T] (fun v9 w9 => v9 = some (.int (iI ((zpq T q2 q3).1))) ∧ w9 = [((B 0), .inr (5, [.ref ((B 1)), .ref ((B 2)), .int (iI ((q0 : Int))), .ref ((B 3)), .int (iI ((q1 : Int))), .ref ((B 4)), .ref ((B 5)), .int (iI ((q2 : Int))), .int (iI ((((zpq T q2 q3).2 : Nat) : Int))), .int (iI ((q4 : Int))), .ref ((B 6)), .ref ((B 7)), .int (iI ((q5 : Int))), .int (iI ((q6 : Int))), .ref ((B 8)), .ref ((B 9)), .ref ((B 10)), .ref ((B 11)), .ref ((B 12)), .int (iI ((q7 : Int)))])), cI G (B 5) 60 T]) := by
  refine Kt.of (cc := cX5_passesItem) (nL := 2) (ret := (some .boolean)) (own := RX5) rfl (by decide +kernel) rfl (Nat.le_of_ble_eq_true rfl) ?_
  intro X Y C R0 hin
  show Z l X G Y 2 0 0 0 [(0, .ref ((B 0)))] [] [((B 0), .inr (5, [.ref ((B 1)), .ref ((B 2)), .int (iI ((q0 : Int))), .ref ((B 3)), .int (iI ((q1 : Int))), .ref ((B 4)), .ref ((B 5)), .int (iI ((q2 : Int))), .int (iI ((q3 : Int))), .int (iI ((q4 : Int))), .ref ((B 6)), .ref ((B 7)), .int (iI ((q5 : Int))), .int (iI ((q6 : Int))), .ref ((B 8)), .ref ((B 9)), .ref ((B 10)), .ref ((B 11)), .ref ((B 12)), .int (iI ((q7 : Int)))])), cI G (B 5) 60 T]
  have zb0 := zcx_b hT q2 q3
  have zb1 := zcx_b hT q2 (q3 + 1)
  have zg0 := zdg_b (zcx T q2 q3)
  have zg1 := zdg_b (zcx T q2 (q3 + 1))
  refine z_aload_n (pc := 0) C dX5_passesItem_0 0 rfl ?_
  refine z_aload_n (pc := 1) C dX5_passesItem_1 0 rfl ?_
  refine z_get (pc := 2) C dX5_passesItem_2 zCl5 ffX5_passesItem_141 0 rfl rfl ?_
  refine z_callV (As := [.int (iI ((q3 : Int)))]) (rest := []) (wc := [((B 0), .inr (5, [.ref ((B 1)), .ref ((B 2)), .int (iI ((q0 : Int))), .ref ((B 3)), .int (iI ((q1 : Int))), .ref ((B 4)), .ref ((B 5)), .int (iI ((q2 : Int))), .int (iI ((q3 : Int))), .int (iI ((q4 : Int))), .ref ((B 6)), .ref ((B 7)), .int (iI ((q5 : Int))), .int (iI ((q6 : Int))), .ref ((B 8)), .ref ((B 9)), .ref ((B 10)), .ref ((B 11)), .ref ((B 12)), .int (iI ((q7 : Int)))])), cI G (B 5) 60 T]) (wr := []) (fs := [.ref ((B 1)), .ref ((B 2)), .int (iI ((q0 : Int))), .ref ((B 3)), .int (iI ((q1 : Int))), .ref ((B 4)), .ref ((B 5)), .int (iI ((q2 : Int))), .int (iI ((q3 : Int))), .int (iI ((q4 : Int))), .ref ((B 6)), .ref ((B 7)), .int (iI ((q5 : Int))), .int (iI ((q6 : Int))), .ref ((B 8)), .ref ((B 9)), .ref ((B 10)), .ref ((B 11)), .ref ((B 12)), .int (iI ((q7 : Int)))]) (pc := 5) C dX5_passesItem_5 (k_X5_codeAt l G B q0 q1 q2 q3 q4 q5 q6 q7 T q3 hn (by omega)) gX5_passesItem_X5_codeAt ⟨⟨_, rfl⟩, ⟨rfl, rfl⟩, nyX5_codeAt, ⟨Nat.le_of_ble_eq_true rfl, Nat.le_of_ble_eq_true rfl⟩⟩ rfl zCl5 rfl (fun h => h) rfl (Nat.le_of_ble_eq_true rfl) [0, 1] [] rfl rfl (by decide) (by decide) (by decide) ⟨Nat.le_of_ble_eq_true rfl, Nat.le_of_ble_eq_true rfl⟩ (fun v w hk => ?_)
  obtain ⟨rfl, rfl⟩ := hk
  refine z_fix (pc2 := 8) (st2 := [.int (iI ((zcx T q2 q3)))]) (ws' := [((B 0), .inr (5, [.ref ((B 1)), .ref ((B 2)), .int (iI ((q0 : Int))), .ref ((B 3)), .int (iI ((q1 : Int))), .ref ((B 4)), .ref ((B 5)), .int (iI ((q2 : Int))), .int (iI ((q3 : Int))), .int (iI ((q4 : Int))), .ref ((B 6)), .ref ((B 7)), .int (iI ((q5 : Int))), .int (iI ((q6 : Int))), .ref ((B 8)), .ref ((B 9)), .ref ((B 10)), .ref ((B 11)), .ref ((B 12)), .int (iI ((q7 : Int)))])), cI G (B 5) 60 T]) [0, 1] rfl rfl rfl (by decide) ?_
  refine z_bipush (pc := 8) C dX5_passesItem_8 (by decide +kernel) ?_
  refine z_icmp_eq (tgt := 26) (pc := 10) C dX5_passesItem_10 (by decide) ⟨by omega, by omega⟩ (by decide) (fun c10 => ?_) (fun c10 => ?_)
  · have hsg : zcx T q2 q3 = 46 ∨ zcx T q2 q3 = 95 := by omega
    have hpq : zpq T q2 q3 = (if 0 < znv T q2 (q3 + 1) then 1 else 0, q3 + 1 + znw T q2 (q3 + 1)) := if_pos hsg
    have hnr : -50 ≤ znv T q2 (q3 + 1) ∧ znv T q2 (q3 + 1) ≤ 1000 := by
      unfold znv
      split
      · split <;> omega
      · omega
    refine z_aload_n (pc := 26) C dX5_passesItem_26 0 rfl ?_
    refine z_dup (pc := 27) C dX5_passesItem_27 rfl ?_
    refine z_get (pc := 28) C dX5_passesItem_28 zCl5 ffX5_passesItem_141 0 rfl rfl ?_
    refine z_iconst (pc := 31) C dX5_passesItem_31 ?_
    refine z_iadd (pc := 32) C dX5_passesItem_32 ?_
    refine z_put (ty := .int) (ws' := [((B 0), .inr (5, [.ref ((B 1)), .ref ((B 2)), .int (iI ((q0 : Int))), .ref ((B 3)), .int (iI ((q1 : Int))), .ref ((B 4)), .ref ((B 5)), .int (iI ((q2 : Int))), .int (iI (((q3 : Int) + 1))), .int (iI ((q4 : Int))), .ref ((B 6)), .ref ((B 7)), .int (iI ((q5 : Int))), .int (iI ((q6 : Int))), .ref ((B 8)), .ref ((B 9)), .ref ((B 10)), .ref ((B 11)), .ref ((B 12)), .int (iI ((q7 : Int)))])), cI G (B 5) 60 T]) (pc := 33) C dX5_passesItem_33 zCl5 ffX5_passesItem_141 0 rfl rfl rfl rfl rfl (Nat.le_of_ble_eq_true rfl) rfl ?_
    refine z_aload_n (pc := 36) C dX5_passesItem_36 0 rfl ?_
    refine z_callV (As := []) (rest := []) (wc := [((B 0), .inr (5, [.ref ((B 1)), .ref ((B 2)), .int (iI ((q0 : Int))), .ref ((B 3)), .int (iI ((q1 : Int))), .ref ((B 4)), .ref ((B 5)), .int (iI ((q2 : Int))), .int (iI ((((q3 + 1) : Nat) : Int))), .int (iI ((q4 : Int))), .ref ((B 6)), .ref ((B 7)), .int (iI ((q5 : Int))), .int (iI ((q6 : Int))), .ref ((B 8)), .ref ((B 9)), .ref ((B 10)), .ref ((B 11)), .ref ((B 12)), .int (iI ((q7 : Int)))])), cI G (B 5) 60 T]) (wr := []) (fs := [.ref ((B 1)), .ref ((B 2)), .int (iI ((q0 : Int))), .ref ((B 3)), .int (iI ((q1 : Int))), .ref ((B 4)), .ref ((B 5)), .int (iI ((q2 : Int))), .int (iI ((((q3 + 1) : Nat) : Int))), .int (iI ((q4 : Int))), .ref ((B 6)), .ref ((B 7)), .int (iI ((q5 : Int))), .int (iI ((q6 : Int))), .ref ((B 8)), .ref ((B 9)), .ref ((B 10)), .ref ((B 11)), .ref ((B 12)), .int (iI ((q7 : Int)))]) (pc := 37) C dX5_passesItem_37 (k_X5_readNumber l G B q0 q1 q2 (q3 + 1) q4 q5 q6 q7 T hT hn (by omega)) gX5_passesItem_X5_readNumber ⟨⟨_, rfl⟩, ⟨rfl, rfl⟩, nyX5_readNumber, ⟨Nat.le_of_ble_eq_true rfl, Nat.le_of_ble_eq_true rfl⟩⟩ rfl zCl5 rfl (fun h => h) rfl (Nat.le_of_ble_eq_true rfl) [0, 1] [] rfl rfl (by decide) (by decide) (by decide) ⟨Nat.le_of_ble_eq_true rfl, Nat.le_of_ble_eq_true rfl⟩ (fun v w hk => ?_)
    obtain ⟨rfl, rfl⟩ := hk
    refine z_fix (pc2 := 40) (st2 := [.int (iI ((znv T q2 (q3 + 1))))]) (ws' := [((B 0), .inr (5, [.ref ((B 1)), .ref ((B 2)), .int (iI ((q0 : Int))), .ref ((B 3)), .int (iI ((q1 : Int))), .ref ((B 4)), .ref ((B 5)), .int (iI ((q2 : Int))), .int (iI (((((q3 + 1) + znw T q2 (q3 + 1)) : Nat) : Int))), .int (iI ((q4 : Int))), .ref ((B 6)), .ref ((B 7)), .int (iI ((q5 : Int))), .int (iI ((q6 : Int))), .ref ((B 8)), .ref ((B 9)), .ref ((B 10)), .ref ((B 11)), .ref ((B 12)), .int (iI ((q7 : Int)))])), cI G (B 5) 60 T]) [0, 1] rfl rfl rfl (by decide) ?_
    refine z_if_le (tgt := 47) (pc := 40) C dX5_passesItem_40 (by decide) ⟨by omega, by omega⟩ (fun c40 => ?_) (fun c40 => ?_)
    · refine z_iconst (pc := 47) C dX5_passesItem_47 ?_
      have hpv : zpq T q2 q3 = (0, q3 + 1 + znw T q2 (q3 + 1)) := by rw [hpq, if_neg (by omega)]
      refine z_ws (ws' := [((B 0), .inr (5, [.ref ((B 1)), .ref ((B 2)), .int (iI ((q0 : Int))), .ref ((B 3)), .int (iI ((q1 : Int))), .ref ((B 4)), .ref ((B 5)), .int (iI ((q2 : Int))), .int (iI ((((zpq T q2 q3).2 : Nat) : Int))), .int (iI ((q4 : Int))), .ref ((B 6)), .ref ((B 7)), .int (iI ((q5 : Int))), .int (iI ((q6 : Int))), .ref ((B 8)), .ref ((B 9)), .ref ((B 10)), .ref ((B 11)), .ref ((B 12)), .int (iI ((q7 : Int)))])), cI G (B 5) 60 T]) [0, 1] (by rw [hpv]; rfl) (by decide) ?_
      refine z_topi (y := (zpq T q2 q3).1) (by rw [hpv]) ?_
      exact z_zret (pc := 48) C R0 ((by rw [hpv]; first | exact zNz (n := 0) (by decide) | exact zNz (n := 1) (by decide))) dX5_passesItem_48 (⟨rfl, rfl⟩)
    · refine z_iconst (pc := 43) C dX5_passesItem_43 ?_
      refine z_goto (tgt := 48) (pc := 44) C dX5_passesItem_44 (by decide) ?_
      have hpv : zpq T q2 q3 = (1, q3 + 1 + znw T q2 (q3 + 1)) := by rw [hpq, if_pos (by omega)]
      refine z_ws (ws' := [((B 0), .inr (5, [.ref ((B 1)), .ref ((B 2)), .int (iI ((q0 : Int))), .ref ((B 3)), .int (iI ((q1 : Int))), .ref ((B 4)), .ref ((B 5)), .int (iI ((q2 : Int))), .int (iI ((((zpq T q2 q3).2 : Nat) : Int))), .int (iI ((q4 : Int))), .ref ((B 6)), .ref ((B 7)), .int (iI ((q5 : Int))), .int (iI ((q6 : Int))), .ref ((B 8)), .ref ((B 9)), .ref ((B 10)), .ref ((B 11)), .ref ((B 12)), .int (iI ((q7 : Int)))])), cI G (B 5) 60 T]) [0, 1] (by rw [hpv]; rfl) (by decide) ?_
      refine z_topi (y := (zpq T q2 q3).1) (by rw [hpv]) ?_
      exact z_zret (pc := 48) C R0 ((by rw [hpv]; first | exact zNz (n := 0) (by decide) | exact zNz (n := 1) (by decide))) dX5_passesItem_48 (⟨rfl, rfl⟩)
  · refine z_aload_n (pc := 13) C dX5_passesItem_13 0 rfl ?_
    refine z_aload_n (pc := 14) C dX5_passesItem_14 0 rfl ?_
    refine z_get (pc := 15) C dX5_passesItem_15 zCl5 ffX5_passesItem_141 0 rfl rfl ?_
    refine z_callV (As := [.int (iI ((q3 : Int)))]) (rest := []) (wc := [((B 0), .inr (5, [.ref ((B 1)), .ref ((B 2)), .int (iI ((q0 : Int))), .ref ((B 3)), .int (iI ((q1 : Int))), .ref ((B 4)), .ref ((B 5)), .int (iI ((q2 : Int))), .int (iI ((q3 : Int))), .int (iI ((q4 : Int))), .ref ((B 6)), .ref ((B 7)), .int (iI ((q5 : Int))), .int (iI ((q6 : Int))), .ref ((B 8)), .ref ((B 9)), .ref ((B 10)), .ref ((B 11)), .ref ((B 12)), .int (iI ((q7 : Int)))])), cI G (B 5) 60 T]) (wr := []) (fs := [.ref ((B 1)), .ref ((B 2)), .int (iI ((q0 : Int))), .ref ((B 3)), .int (iI ((q1 : Int))), .ref ((B 4)), .ref ((B 5)), .int (iI ((q2 : Int))), .int (iI ((q3 : Int))), .int (iI ((q4 : Int))), .ref ((B 6)), .ref ((B 7)), .int (iI ((q5 : Int))), .int (iI ((q6 : Int))), .ref ((B 8)), .ref ((B 9)), .ref ((B 10)), .ref ((B 11)), .ref ((B 12)), .int (iI ((q7 : Int)))]) (pc := 18) C dX5_passesItem_18 (k_X5_codeAt l G B q0 q1 q2 q3 q4 q5 q6 q7 T q3 hn (by omega)) gX5_passesItem_X5_codeAt ⟨⟨_, rfl⟩, ⟨rfl, rfl⟩, nyX5_codeAt, ⟨Nat.le_of_ble_eq_true rfl, Nat.le_of_ble_eq_true rfl⟩⟩ rfl zCl5 rfl (fun h => h) rfl (Nat.le_of_ble_eq_true rfl) [0, 1] [] rfl rfl (by decide) (by decide) (by decide) ⟨Nat.le_of_ble_eq_true rfl, Nat.le_of_ble_eq_true rfl⟩ (fun v w hk => ?_)
    obtain ⟨rfl, rfl⟩ := hk
    refine z_fix (pc2 := 21) (st2 := [.int (iI ((zcx T q2 q3)))]) (ws' := [((B 0), .inr (5, [.ref ((B 1)), .ref ((B 2)), .int (iI ((q0 : Int))), .ref ((B 3)), .int (iI ((q1 : Int))), .ref ((B 4)), .ref ((B 5)), .int (iI ((q2 : Int))), .int (iI ((q3 : Int))), .int (iI ((q4 : Int))), .ref ((B 6)), .ref ((B 7)), .int (iI ((q5 : Int))), .int (iI ((q6 : Int))), .ref ((B 8)), .ref ((B 9)), .ref ((B 10)), .ref ((B 11)), .ref ((B 12)), .int (iI ((q7 : Int)))])), cI G (B 5) 60 T]) [0, 1] rfl rfl rfl (by decide) ?_
    refine z_bipush (pc := 21) C dX5_passesItem_21 (by decide +kernel) ?_
    refine z_icmp_ne (tgt := 49) (pc := 23) C dX5_passesItem_23 (by decide) ⟨by omega, by omega⟩ (by decide) (fun c23 => ?_) (fun c23 => ?_)
    · have hns : ¬ (zcx T q2 q3 = 46 ∨ zcx T q2 q3 = 95) := by omega
      refine z_iconst (pc := 49) C dX5_passesItem_49 ?_
      refine z_istore_n (lv' := [(1, .int (iI 0)), (0, .ref ((B 0)))]) (pc := 50) C dX5_passesItem_50 (by decide) rfl ?_
      refine z_iload_n (pc := 51) C dX5_passesItem_51 0 rfl ?_
      refine z_iconst (pc := 52) C dX5_passesItem_52 ?_
      refine z_icmp_ge (tgt := 90) (pc := 53) C dX5_passesItem_53 (by decide) (by decide) (by decide) (fun c53 => ?_) (fun c53 => ?_)
      · exfalso; omega
      · refine z_aload_n (pc := 56) C dX5_passesItem_56 1 rfl ?_
        refine z_aload_n (pc := 57) C dX5_passesItem_57 1 rfl ?_
        refine z_get (pc := 58) C dX5_passesItem_58 zCl5 ffX5_passesItem_141 0 rfl rfl ?_
        refine z_callV (As := [.int (iI ((q3 : Int)))]) (rest := []) (wc := [((B 0), .inr (5, [.ref ((B 1)), .ref ((B 2)), .int (iI ((q0 : Int))), .ref ((B 3)), .int (iI ((q1 : Int))), .ref ((B 4)), .ref ((B 5)), .int (iI ((q2 : Int))), .int (iI ((q3 : Int))), .int (iI ((q4 : Int))), .ref ((B 6)), .ref ((B 7)), .int (iI ((q5 : Int))), .int (iI ((q6 : Int))), .ref ((B 8)), .ref ((B 9)), .ref ((B 10)), .ref ((B 11)), .ref ((B 12)), .int (iI ((q7 : Int)))])), cI G (B 5) 60 T]) (wr := []) (fs := [.ref ((B 1)), .ref ((B 2)), .int (iI ((q0 : Int))), .ref ((B 3)), .int (iI ((q1 : Int))), .ref ((B 4)), .ref ((B 5)), .int (iI ((q2 : Int))), .int (iI ((q3 : Int))), .int (iI ((q4 : Int))), .ref ((B 6)), .ref ((B 7)), .int (iI ((q5 : Int))), .int (iI ((q6 : Int))), .ref ((B 8)), .ref ((B 9)), .ref ((B 10)), .ref ((B 11)), .ref ((B 12)), .int (iI ((q7 : Int)))]) (pc := 61) C dX5_passesItem_61 (k_X5_codeAt l G B q0 q1 q2 q3 q4 q5 q6 q7 T q3 hn (by omega)) gX5_passesItem_X5_codeAt ⟨⟨_, rfl⟩, ⟨rfl, rfl⟩, nyX5_codeAt, ⟨Nat.le_of_ble_eq_true rfl, Nat.le_of_ble_eq_true rfl⟩⟩ rfl zCl5 rfl (fun h => h) rfl (Nat.le_of_ble_eq_true rfl) [0, 1] [] rfl rfl (by decide) (by decide) (by decide) ⟨Nat.le_of_ble_eq_true rfl, Nat.le_of_ble_eq_true rfl⟩ (fun v w hk => ?_)
        obtain ⟨rfl, rfl⟩ := hk
        refine z_fix (pc2 := 64) (st2 := [.int (iI ((zcx T q2 q3)))]) (ws' := [((B 0), .inr (5, [.ref ((B 1)), .ref ((B 2)), .int (iI ((q0 : Int))), .ref ((B 3)), .int (iI ((q1 : Int))), .ref ((B 4)), .ref ((B 5)), .int (iI ((q2 : Int))), .int (iI ((q3 : Int))), .int (iI ((q4 : Int))), .ref ((B 6)), .ref ((B 7)), .int (iI ((q5 : Int))), .int (iI ((q6 : Int))), .ref ((B 8)), .ref ((B 9)), .ref ((B 10)), .ref ((B 11)), .ref ((B 12)), .int (iI ((q7 : Int)))])), cI G (B 5) 60 T]) [0, 1] rfl rfl rfl (by decide) ?_
        refine z_callS (As := [.int (iI ((zcx T q2 q3)))]) (rest := []) (wc := []) (wr := [((B 0), .inr (5, [.ref ((B 1)), .ref ((B 2)), .int (iI ((q0 : Int))), .ref ((B 3)), .int (iI ((q1 : Int))), .ref ((B 4)), .ref ((B 5)), .int (iI ((q2 : Int))), .int (iI ((q3 : Int))), .int (iI ((q4 : Int))), .ref ((B 6)), .ref ((B 7)), .int (iI ((q5 : Int))), .int (iI ((q6 : Int))), .ref ((B 8)), .ref ((B 9)), .ref ((B 10)), .ref ((B 11)), .ref ((B 12)), .int (iI ((q7 : Int)))])), cI G (B 5) 60 T]) (pc := 64) C dX5_passesItem_64 (k_X5_hex l G (zcx T q2 q3) ⟨by omega, by omega⟩) gX5_passesItem_X5_hex ⟨⟨_, rfl⟩, ⟨rfl, rfl⟩, nyX5_hex, ⟨Nat.le_of_ble_eq_true rfl, Nat.le_of_ble_eq_true rfl⟩⟩ (fun h => h) rfl (Nat.le_of_ble_eq_true rfl) [] [0, 1] rfl rfl (by decide) (by decide) (by decide) ⟨Nat.le_of_ble_eq_true rfl, Nat.le_of_ble_eq_true rfl⟩ (fun v w hk => ?_)
        obtain ⟨rfl, rfl⟩ := hk
        refine z_fix (pc2 := 67) (st2 := [.int (iI ((zdg (zcx T q2 q3))))]) (ws' := [((B 0), .inr (5, [.ref ((B 1)), .ref ((B 2)), .int (iI ((q0 : Int))), .ref ((B 3)), .int (iI ((q1 : Int))), .ref ((B 4)), .ref ((B 5)), .int (iI ((q2 : Int))), .int (iI ((q3 : Int))), .int (iI ((q4 : Int))), .ref ((B 6)), .ref ((B 7)), .int (iI ((q5 : Int))), .int (iI ((q6 : Int))), .ref ((B 8)), .ref ((B 9)), .ref ((B 10)), .ref ((B 11)), .ref ((B 12)), .int (iI ((q7 : Int)))])), cI G (B 5) 60 T]) [0, 1] rfl rfl rfl (by decide) ?_
        refine z_bipush (pc := 67) C dX5_passesItem_67 (by decide +kernel) ?_
        refine z_icmp_ne (tgt := 74) (pc := 69) C dX5_passesItem_69 (by decide) ⟨by omega, by omega⟩ (by decide) (fun c69 => ?_) (fun c69 => ?_)
        · refine z_aload_n (pc := 74) C dX5_passesItem_74 1 rfl ?_
          refine z_dup (pc := 75) C dX5_passesItem_75 rfl ?_
          refine z_get (pc := 76) C dX5_passesItem_76 zCl5 ffX5_passesItem_141 0 rfl rfl ?_
          refine z_iconst (pc := 79) C dX5_passesItem_79 ?_
          refine z_iadd (pc := 80) C dX5_passesItem_80 ?_
          refine z_put (ty := .int) (ws' := [((B 0), .inr (5, [.ref ((B 1)), .ref ((B 2)), .int (iI ((q0 : Int))), .ref ((B 3)), .int (iI ((q1 : Int))), .ref ((B 4)), .ref ((B 5)), .int (iI ((q2 : Int))), .int (iI (((q3 : Int) + 1))), .int (iI ((q4 : Int))), .ref ((B 6)), .ref ((B 7)), .int (iI ((q5 : Int))), .int (iI ((q6 : Int))), .ref ((B 8)), .ref ((B 9)), .ref ((B 10)), .ref ((B 11)), .ref ((B 12)), .int (iI ((q7 : Int)))])), cI G (B 5) 60 T]) (pc := 81) C dX5_passesItem_81 zCl5 ffX5_passesItem_141 0 rfl rfl rfl rfl rfl (Nat.le_of_ble_eq_true rfl) rfl ?_
          refine z_iinc (lv' := [(1, .int (iI 1)), (0, .ref ((B 0)))]) (pc := 84) C dX5_passesItem_84 0 rfl (by decide) rfl ?_
          refine z_goto (tgt := 51) (pc := 87) C dX5_passesItem_87 (by decide) ?_
          refine z_iload_n (pc := 51) C dX5_passesItem_51 0 rfl ?_
          refine z_iconst (pc := 52) C dX5_passesItem_52 ?_
          refine z_icmp_ge (tgt := 90) (pc := 53) C dX5_passesItem_53 (by decide) (by decide) (by decide) (fun c53 => ?_) (fun c53 => ?_)
          · exfalso; omega
          · refine z_aload_n (pc := 56) C dX5_passesItem_56 1 rfl ?_
            refine z_aload_n (pc := 57) C dX5_passesItem_57 1 rfl ?_
            refine z_get (pc := 58) C dX5_passesItem_58 zCl5 ffX5_passesItem_141 0 rfl rfl ?_
            refine z_callV (As := [.int (iI (((q3 : Int) + 1)))]) (rest := []) (wc := [((B 0), .inr (5, [.ref ((B 1)), .ref ((B 2)), .int (iI ((q0 : Int))), .ref ((B 3)), .int (iI ((q1 : Int))), .ref ((B 4)), .ref ((B 5)), .int (iI ((q2 : Int))), .int (iI ((((q3 + 1) : Nat) : Int))), .int (iI ((q4 : Int))), .ref ((B 6)), .ref ((B 7)), .int (iI ((q5 : Int))), .int (iI ((q6 : Int))), .ref ((B 8)), .ref ((B 9)), .ref ((B 10)), .ref ((B 11)), .ref ((B 12)), .int (iI ((q7 : Int)))])), cI G (B 5) 60 T]) (wr := []) (fs := [.ref ((B 1)), .ref ((B 2)), .int (iI ((q0 : Int))), .ref ((B 3)), .int (iI ((q1 : Int))), .ref ((B 4)), .ref ((B 5)), .int (iI ((q2 : Int))), .int (iI ((((q3 + 1) : Nat) : Int))), .int (iI ((q4 : Int))), .ref ((B 6)), .ref ((B 7)), .int (iI ((q5 : Int))), .int (iI ((q6 : Int))), .ref ((B 8)), .ref ((B 9)), .ref ((B 10)), .ref ((B 11)), .ref ((B 12)), .int (iI ((q7 : Int)))]) (pc := 61) C dX5_passesItem_61 (k_X5_codeAt l G B q0 q1 q2 (q3 + 1) q4 q5 q6 q7 T (q3 + 1) hn (by omega)) gX5_passesItem_X5_codeAt ⟨⟨_, rfl⟩, ⟨rfl, rfl⟩, nyX5_codeAt, ⟨Nat.le_of_ble_eq_true rfl, Nat.le_of_ble_eq_true rfl⟩⟩ rfl zCl5 rfl (fun h => h) rfl (Nat.le_of_ble_eq_true rfl) [0, 1] [] rfl rfl (by decide) (by decide) (by decide) ⟨Nat.le_of_ble_eq_true rfl, Nat.le_of_ble_eq_true rfl⟩ (fun v w hk => ?_)
            obtain ⟨rfl, rfl⟩ := hk
            refine z_fix (pc2 := 64) (st2 := [.int (iI ((zcx T q2 (q3 + 1))))]) (ws' := [((B 0), .inr (5, [.ref ((B 1)), .ref ((B 2)), .int (iI ((q0 : Int))), .ref ((B 3)), .int (iI ((q1 : Int))), .ref ((B 4)), .ref ((B 5)), .int (iI ((q2 : Int))), .int (iI ((((q3 + 1) : Nat) : Int))), .int (iI ((q4 : Int))), .ref ((B 6)), .ref ((B 7)), .int (iI ((q5 : Int))), .int (iI ((q6 : Int))), .ref ((B 8)), .ref ((B 9)), .ref ((B 10)), .ref ((B 11)), .ref ((B 12)), .int (iI ((q7 : Int)))])), cI G (B 5) 60 T]) [0, 1] rfl rfl rfl (by decide) ?_
            refine z_callS (As := [.int (iI ((zcx T q2 (q3 + 1))))]) (rest := []) (wc := []) (wr := [((B 0), .inr (5, [.ref ((B 1)), .ref ((B 2)), .int (iI ((q0 : Int))), .ref ((B 3)), .int (iI ((q1 : Int))), .ref ((B 4)), .ref ((B 5)), .int (iI ((q2 : Int))), .int (iI ((((q3 + 1) : Nat) : Int))), .int (iI ((q4 : Int))), .ref ((B 6)), .ref ((B 7)), .int (iI ((q5 : Int))), .int (iI ((q6 : Int))), .ref ((B 8)), .ref ((B 9)), .ref ((B 10)), .ref ((B 11)), .ref ((B 12)), .int (iI ((q7 : Int)))])), cI G (B 5) 60 T]) (pc := 64) C dX5_passesItem_64 (k_X5_hex l G (zcx T q2 (q3 + 1)) ⟨by omega, by omega⟩) gX5_passesItem_X5_hex ⟨⟨_, rfl⟩, ⟨rfl, rfl⟩, nyX5_hex, ⟨Nat.le_of_ble_eq_true rfl, Nat.le_of_ble_eq_true rfl⟩⟩ (fun h => h) rfl (Nat.le_of_ble_eq_true rfl) [] [0, 1] rfl rfl (by decide) (by decide) (by decide) ⟨Nat.le_of_ble_eq_true rfl, Nat.le_of_ble_eq_true rfl⟩ (fun v w hk => ?_)
            obtain ⟨rfl, rfl⟩ := hk
            refine z_fix (pc2 := 67) (st2 := [.int (iI ((zdg (zcx T q2 (q3 + 1)))))]) (ws' := [((B 0), .inr (5, [.ref ((B 1)), .ref ((B 2)), .int (iI ((q0 : Int))), .ref ((B 3)), .int (iI ((q1 : Int))), .ref ((B 4)), .ref ((B 5)), .int (iI ((q2 : Int))), .int (iI ((((q3 + 1) : Nat) : Int))), .int (iI ((q4 : Int))), .ref ((B 6)), .ref ((B 7)), .int (iI ((q5 : Int))), .int (iI ((q6 : Int))), .ref ((B 8)), .ref ((B 9)), .ref ((B 10)), .ref ((B 11)), .ref ((B 12)), .int (iI ((q7 : Int)))])), cI G (B 5) 60 T]) [0, 1] rfl rfl rfl (by decide) ?_
            refine z_bipush (pc := 67) C dX5_passesItem_67 (by decide +kernel) ?_
            refine z_icmp_ne (tgt := 74) (pc := 69) C dX5_passesItem_69 (by decide) ⟨by omega, by omega⟩ (by decide) (fun c69 => ?_) (fun c69 => ?_)
            · refine z_aload_n (pc := 74) C dX5_passesItem_74 1 rfl ?_
              refine z_dup (pc := 75) C dX5_passesItem_75 rfl ?_
              refine z_get (pc := 76) C dX5_passesItem_76 zCl5 ffX5_passesItem_141 0 rfl rfl ?_
              refine z_iconst (pc := 79) C dX5_passesItem_79 ?_
              refine z_iadd (pc := 80) C dX5_passesItem_80 ?_
              refine z_put (ty := .int) (ws' := [((B 0), .inr (5, [.ref ((B 1)), .ref ((B 2)), .int (iI ((q0 : Int))), .ref ((B 3)), .int (iI ((q1 : Int))), .ref ((B 4)), .ref ((B 5)), .int (iI ((q2 : Int))), .int (iI (((((q3 + 1) : Nat) : Int) + 1))), .int (iI ((q4 : Int))), .ref ((B 6)), .ref ((B 7)), .int (iI ((q5 : Int))), .int (iI ((q6 : Int))), .ref ((B 8)), .ref ((B 9)), .ref ((B 10)), .ref ((B 11)), .ref ((B 12)), .int (iI ((q7 : Int)))])), cI G (B 5) 60 T]) (pc := 81) C dX5_passesItem_81 zCl5 ffX5_passesItem_141 0 rfl rfl rfl rfl rfl (Nat.le_of_ble_eq_true rfl) rfl ?_
              refine z_iinc (lv' := [(1, .int (iI 2)), (0, .ref ((B 0)))]) (pc := 84) C dX5_passesItem_84 0 rfl (by decide) rfl ?_
              refine z_goto (tgt := 51) (pc := 87) C dX5_passesItem_87 (by decide) ?_
              refine z_iload_n (pc := 51) C dX5_passesItem_51 0 rfl ?_
              refine z_iconst (pc := 52) C dX5_passesItem_52 ?_
              refine z_icmp_ge (tgt := 90) (pc := 53) C dX5_passesItem_53 (by decide) (by decide) (by decide) (fun c53 => ?_) (fun c53 => ?_)
              · refine z_iconst (pc := 90) C dX5_passesItem_90 ?_
                have hpv : zpq T q2 q3 = (1, q3 + 2) := (if_neg hns).trans ((if_neg (by omega)).trans (if_neg (by omega)))
                refine z_ws (ws' := [((B 0), .inr (5, [.ref ((B 1)), .ref ((B 2)), .int (iI ((q0 : Int))), .ref ((B 3)), .int (iI ((q1 : Int))), .ref ((B 4)), .ref ((B 5)), .int (iI ((q2 : Int))), .int (iI ((((zpq T q2 q3).2 : Nat) : Int))), .int (iI ((q4 : Int))), .ref ((B 6)), .ref ((B 7)), .int (iI ((q5 : Int))), .int (iI ((q6 : Int))), .ref ((B 8)), .ref ((B 9)), .ref ((B 10)), .ref ((B 11)), .ref ((B 12)), .int (iI ((q7 : Int)))])), cI G (B 5) 60 T]) [0, 1] (by rw [hpv]; rfl) (by decide) ?_
                refine z_topi (y := (zpq T q2 q3).1) (by rw [hpv]) ?_
                exact z_zret (pc := 91) C R0 ((by rw [hpv]; first | exact zNz (n := 0) (by decide) | exact zNz (n := 1) (by decide))) dX5_passesItem_91 (⟨rfl, rfl⟩)
              · exfalso; omega
            · refine z_iconst (pc := 72) C dX5_passesItem_72 ?_
              have hpv : zpq T q2 q3 = (0, q3 + 1) := (if_neg hns).trans ((if_neg (by omega)).trans (if_pos (by omega)))
              refine z_ws (ws' := [((B 0), .inr (5, [.ref ((B 1)), .ref ((B 2)), .int (iI ((q0 : Int))), .ref ((B 3)), .int (iI ((q1 : Int))), .ref ((B 4)), .ref ((B 5)), .int (iI ((q2 : Int))), .int (iI ((((zpq T q2 q3).2 : Nat) : Int))), .int (iI ((q4 : Int))), .ref ((B 6)), .ref ((B 7)), .int (iI ((q5 : Int))), .int (iI ((q6 : Int))), .ref ((B 8)), .ref ((B 9)), .ref ((B 10)), .ref ((B 11)), .ref ((B 12)), .int (iI ((q7 : Int)))])), cI G (B 5) 60 T]) [0, 1] (by rw [hpv]; rfl) (by decide) ?_
              refine z_topi (y := (zpq T q2 q3).1) (by rw [hpv]) ?_
              exact z_zret (pc := 73) C R0 ((by rw [hpv]; first | exact zNz (n := 0) (by decide) | exact zNz (n := 1) (by decide))) dX5_passesItem_73 (⟨rfl, rfl⟩)
        · refine z_iconst (pc := 72) C dX5_passesItem_72 ?_
          have hpv : zpq T q2 q3 = (0, q3) := (if_neg hns).trans (if_pos (by omega))
          refine z_ws (ws' := [((B 0), .inr (5, [.ref ((B 1)), .ref ((B 2)), .int (iI ((q0 : Int))), .ref ((B 3)), .int (iI ((q1 : Int))), .ref ((B 4)), .ref ((B 5)), .int (iI ((q2 : Int))), .int (iI ((((zpq T q2 q3).2 : Nat) : Int))), .int (iI ((q4 : Int))), .ref ((B 6)), .ref ((B 7)), .int (iI ((q5 : Int))), .int (iI ((q6 : Int))), .ref ((B 8)), .ref ((B 9)), .ref ((B 10)), .ref ((B 11)), .ref ((B 12)), .int (iI ((q7 : Int)))])), cI G (B 5) 60 T]) [0, 1] (by rw [hpv]; rfl) (by decide) ?_
          refine z_topi (y := (zpq T q2 q3).1) (by rw [hpv]) ?_
          exact z_zret (pc := 73) C R0 ((by rw [hpv]; first | exact zNz (n := 0) (by decide) | exact zNz (n := 1) (by decide))) dX5_passesItem_73 (⟨rfl, rfl⟩)
    · have hsg : zcx T q2 q3 = 46 ∨ zcx T q2 q3 = 95 := by omega
      have hpq : zpq T q2 q3 = (if 0 < znv T q2 (q3 + 1) then 1 else 0, q3 + 1 + znw T q2 (q3 + 1)) := if_pos hsg
      have hnr : -50 ≤ znv T q2 (q3 + 1) ∧ znv T q2 (q3 + 1) ≤ 1000 := by
        unfold znv
        split
        · split <;> omega
        · omega
      refine z_aload_n (pc := 26) C dX5_passesItem_26 0 rfl ?_
      refine z_dup (pc := 27) C dX5_passesItem_27 rfl ?_
      refine z_get (pc := 28) C dX5_passesItem_28 zCl5 ffX5_passesItem_141 0 rfl rfl ?_
      refine z_iconst (pc := 31) C dX5_passesItem_31 ?_
      refine z_iadd (pc := 32) C dX5_passesItem_32 ?_
      refine z_put (ty := .int) (ws' := [((B 0), .inr (5, [.ref ((B 1)), .ref ((B 2)), .int (iI ((q0 : Int))), .ref ((B 3)), .int (iI ((q1 : Int))), .ref ((B 4)), .ref ((B 5)), .int (iI ((q2 : Int))), .int (iI (((q3 : Int) + 1))), .int (iI ((q4 : Int))), .ref ((B 6)), .ref ((B 7)), .int (iI ((q5 : Int))), .int (iI ((q6 : Int))), .ref ((B 8)), .ref ((B 9)), .ref ((B 10)), .ref ((B 11)), .ref ((B 12)), .int (iI ((q7 : Int)))])), cI G (B 5) 60 T]) (pc := 33) C dX5_passesItem_33 zCl5 ffX5_passesItem_141 0 rfl rfl rfl rfl rfl (Nat.le_of_ble_eq_true rfl) rfl ?_
      refine z_aload_n (pc := 36) C dX5_passesItem_36 0 rfl ?_
      refine z_callV (As := []) (rest := []) (wc := [((B 0), .inr (5, [.ref ((B 1)), .ref ((B 2)), .int (iI ((q0 : Int))), .ref ((B 3)), .int (iI ((q1 : Int))), .ref ((B 4)), .ref ((B 5)), .int (iI ((q2 : Int))), .int (iI ((((q3 + 1) : Nat) : Int))), .int (iI ((q4 : Int))), .ref ((B 6)), .ref ((B 7)), .int (iI ((q5 : Int))), .int (iI ((q6 : Int))), .ref ((B 8)), .ref ((B 9)), .ref ((B 10)), .ref ((B 11)), .ref ((B 12)), .int (iI ((q7 : Int)))])), cI G (B 5) 60 T]) (wr := []) (fs := [.ref ((B 1)), .ref ((B 2)), .int (iI ((q0 : Int))), .ref ((B 3)), .int (iI ((q1 : Int))), .ref ((B 4)), .ref ((B 5)), .int (iI ((q2 : Int))), .int (iI ((((q3 + 1) : Nat) : Int))), .int (iI ((q4 : Int))), .ref ((B 6)), .ref ((B 7)), .int (iI ((q5 : Int))), .int (iI ((q6 : Int))), .ref ((B 8)), .ref ((B 9)), .ref ((B 10)), .ref ((B 11)), .ref ((B 12)), .int (iI ((q7 : Int)))]) (pc := 37) C dX5_passesItem_37 (k_X5_readNumber l G B q0 q1 q2 (q3 + 1) q4 q5 q6 q7 T hT hn (by omega)) gX5_passesItem_X5_readNumber ⟨⟨_, rfl⟩, ⟨rfl, rfl⟩, nyX5_readNumber, ⟨Nat.le_of_ble_eq_true rfl, Nat.le_of_ble_eq_true rfl⟩⟩ rfl zCl5 rfl (fun h => h) rfl (Nat.le_of_ble_eq_true rfl) [0, 1] [] rfl rfl (by decide) (by decide) (by decide) ⟨Nat.le_of_ble_eq_true rfl, Nat.le_of_ble_eq_true rfl⟩ (fun v w hk => ?_)
      obtain ⟨rfl, rfl⟩ := hk
      refine z_fix (pc2 := 40) (st2 := [.int (iI ((znv T q2 (q3 + 1))))]) (ws' := [((B 0), .inr (5, [.ref ((B 1)), .ref ((B 2)), .int (iI ((q0 : Int))), .ref ((B 3)), .int (iI ((q1 : Int))), .ref ((B 4)), .ref ((B 5)), .int (iI ((q2 : Int))), .int (iI (((((q3 + 1) + znw T q2 (q3 + 1)) : Nat) : Int))), .int (iI ((q4 : Int))), .ref ((B 6)), .ref ((B 7)), .int (iI ((q5 : Int))), .int (iI ((q6 : Int))), .ref ((B 8)), .ref ((B 9)), .ref ((B 10)), .ref ((B 11)), .ref ((B 12)), .int (iI ((q7 : Int)))])), cI G (B 5) 60 T]) [0, 1] rfl rfl rfl (by decide) ?_
      refine z_if_le (tgt := 47) (pc := 40) C dX5_passesItem_40 (by decide) ⟨by omega, by omega⟩ (fun c40 => ?_) (fun c40 => ?_)
      · refine z_iconst (pc := 47) C dX5_passesItem_47 ?_
        have hpv : zpq T q2 q3 = (0, q3 + 1 + znw T q2 (q3 + 1)) := by rw [hpq, if_neg (by omega)]
        refine z_ws (ws' := [((B 0), .inr (5, [.ref ((B 1)), .ref ((B 2)), .int (iI ((q0 : Int))), .ref ((B 3)), .int (iI ((q1 : Int))), .ref ((B 4)), .ref ((B 5)), .int (iI ((q2 : Int))), .int (iI ((((zpq T q2 q3).2 : Nat) : Int))), .int (iI ((q4 : Int))), .ref ((B 6)), .ref ((B 7)), .int (iI ((q5 : Int))), .int (iI ((q6 : Int))), .ref ((B 8)), .ref ((B 9)), .ref ((B 10)), .ref ((B 11)), .ref ((B 12)), .int (iI ((q7 : Int)))])), cI G (B 5) 60 T]) [0, 1] (by rw [hpv]; rfl) (by decide) ?_
        refine z_topi (y := (zpq T q2 q3).1) (by rw [hpv]) ?_
        exact z_zret (pc := 48) C R0 ((by rw [hpv]; first | exact zNz (n := 0) (by decide) | exact zNz (n := 1) (by decide))) dX5_passesItem_48 (⟨rfl, rfl⟩)
      · refine z_iconst (pc := 43) C dX5_passesItem_43 ?_
        refine z_goto (tgt := 48) (pc := 44) C dX5_passesItem_44 (by decide) ?_
        have hpv : zpq T q2 q3 = (1, q3 + 1 + znw T q2 (q3 + 1)) := by rw [hpq, if_pos (by omega)]
        refine z_ws (ws' := [((B 0), .inr (5, [.ref ((B 1)), .ref ((B 2)), .int (iI ((q0 : Int))), .ref ((B 3)), .int (iI ((q1 : Int))), .ref ((B 4)), .ref ((B 5)), .int (iI ((q2 : Int))), .int (iI ((((zpq T q2 q3).2 : Nat) : Int))), .int (iI ((q4 : Int))), .ref ((B 6)), .ref ((B 7)), .int (iI ((q5 : Int))), .int (iI ((q6 : Int))), .ref ((B 8)), .ref ((B 9)), .ref ((B 10)), .ref ((B 11)), .ref ((B 12)), .int (iI ((q7 : Int)))])), cI G (B 5) 60 T]) [0, 1] (by rw [hpv]; rfl) (by decide) ?_
        refine z_topi (y := (zpq T q2 q3).1) (by rw [hpv]) ?_
        exact z_zret (pc := 48) C R0 ((by rw [hpv]; first | exact zNz (n := 0) (by decide) | exact zNz (n := 1) (by decide))) dX5_passesItem_48 (⟨rfl, rfl⟩)

theorem ffX5_fault_141 : zFF wsX5_fault RX5 141 RX5 TX5 20 8 := ⟨by decide +kernel, by decide, by decide +kernel⟩
theorem ffX5_fault_153 : zFF wsX5_fault RX5 153 RX5 TX5 20 9 := ⟨by decide +kernel, by decide, by decide +kernel⟩
theorem nyX5_isRepeat : yX5_isRepeat.cls ≠ "java/lang/invoke/MethodHandle" ∧ yX5_isRepeat.cls ≠ "java/lang/invoke/VarHandle" ∧ (parseMethodDescriptor yX5_isRepeat.desc).map (fun d => d.parameters.length) = some 0 := by decide +kernel
theorem nyX5_passesItem : yX5_passesItem.cls ≠ "java/lang/invoke/MethodHandle" ∧ yX5_passesItem.cls ≠ "java/lang/invoke/VarHandle" ∧ (parseMethodDescriptor yX5_passesItem.desc).map (fun d => d.parameters.length) = some 0 := by decide +kernel
theorem ffX5_fault_138 : zFF wsX5_fault RX5 138 RX5 TX5 20 7 := ⟨by decide +kernel, by decide, by decide +kernel⟩
set_option maxHeartbeats 4000000 in
set_option maxRecDepth 100000 in
theorem k_X5_fault (l : Launch) (G : ZG) (B : Nat → Nat) (q0 q1 q2 q3 q4 q5 q6 q7 : Nat) (T : Nat → Int) (hT : ∀ i, 0 ≤ T i ∧ T i < 65536) (hn : q2 ≤ 60) : Kt l G yX5_fault wsX5_fault { frames := 3, cells := 0, slots := 0, locals := 64 } 0 0 False [.ref ((B 0))] [((B 0), .inr (5, [.ref ((B 1)), .ref ((B 2)), .int (iI ((q0 : Int))), .ref ((B 3)), .int (iI ((q1 : Int))), .ref ((B 4)), .ref ((B 5)), .int (iI ((q2 : Int))), .int (iI ((q3 : Int))), .int (iI ((q4 : Int))), .ref ((B 6)), .ref ((B 7)), .int (iI ((q5 : Int))), .int (iI ((q6 : Int))), .ref ((B 8)), .ref ((B 9)), .ref ((B 10)), .ref ((B 11)), .ref ((B 12)), .int (iI ((q7 : Int)))])), cI G (B 5) 60 T] (fun v9 w9 => ∃ (p3 : Nat) (p4 : Nat), v9 = some (.int (iI ((zfault T q2)))) ∧ w9 = [((B 0), .inr (5, [.ref ((B 1)), .ref ((B 2)), .int (iI ((q0 : Int))), .ref ((B 3)), .int (iI ((q1 : Int))), .ref ((B 4)), .ref ((B 5)), .int (iI ((q2 : Int))), .int (iI ((p3 : Int))), .int (iI ((p4 : Int))), .ref ((B 6)), .ref ((B 7)), .int (iI ((q5 : Int))), .int (iI ((q6 : Int))), .ref ((B 8)), .ref ((B 9)), .ref ((B 10)), .ref ((B 11)), .ref ((B 12)), .int (iI ((q7 : Int)))])), cI G (B 5) 60 T]) := by
  refine Kt.of (cc := cX5_fault) (nL := 1) (ret := (some .int)) (own := RX5) rfl (by decide +kernel) rfl (Nat.le_of_ble_eq_true rfl) ?_
  intro X Y C R0 hin
  show Z l X G Y 1 0 0 0 [(0, .ref ((B 0)))] [] [((B 0), .inr (5, [.ref ((B 1)), .ref ((B 2)), .int (iI ((q0 : Int))), .ref ((B 3)), .int (iI ((q1 : Int))), .ref ((B 4)), .ref ((B 5)), .int (iI ((q2 : Int))), .int (iI ((q3 : Int))), .int (iI ((q4 : Int))), .ref ((B 6)), .ref ((B 7)), .int (iI ((q5 : Int))), .int (iI ((q6 : Int))), .ref ((B 8)), .ref ((B 9)), .ref ((B 10)), .ref ((B 11)), .ref ((B 12)), .int (iI ((q7 : Int)))])), cI G (B 5) 60 T]
  refine z_aload_n (pc := 0) C dX5_fault_0 0 rfl ?_
  refine z_iconst (pc := 1) C dX5_fault_1 ?_
  refine z_put (ty := .int) (ws' := [((B 0), .inr (5, [.ref ((B 1)), .ref ((B 2)), .int (iI ((q0 : Int))), .ref ((B 3)), .int (iI ((q1 : Int))), .ref ((B 4)), .ref ((B 5)), .int (iI ((q2 : Int))), .int (iI 0), .int (iI ((q4 : Int))), .ref ((B 6)), .ref ((B 7)), .int (iI ((q5 : Int))), .int (iI ((q6 : Int))), .ref ((B 8)), .ref ((B 9)), .ref ((B 10)), .ref ((B 11)), .ref ((B 12)), .int (iI ((q7 : Int)))])), cI G (B 5) 60 T]) (pc := 2) C dX5_fault_2 zCl5 ffX5_fault_141 0 rfl rfl rfl rfl rfl (Nat.le_of_ble_eq_true rfl) rfl ?_
  refine z_aload_n (pc := 5) C dX5_fault_5 0 rfl ?_
  refine z_iconst (pc := 6) C dX5_fault_6 ?_
  refine z_put (ty := .int) (ws' := [((B 0), .inr (5, [.ref ((B 1)), .ref ((B 2)), .int (iI ((q0 : Int))), .ref ((B 3)), .int (iI ((q1 : Int))), .ref ((B 4)), .ref ((B 5)), .int (iI ((q2 : Int))), .int (iI 0), .int (iI 0), .ref ((B 6)), .ref ((B 7)), .int (iI ((q5 : Int))), .int (iI ((q6 : Int))), .ref ((B 8)), .ref ((B 9)), .ref ((B 10)), .ref ((B 11)), .ref ((B 12)), .int (iI ((q7 : Int)))])), cI G (B 5) 60 T]) (pc := 7) C dX5_fault_7 zCl5 ffX5_fault_153 0 rfl rfl rfl rfl rfl (Nat.le_of_ble_eq_true rfl) rfl ?_
  have L10 : ∀ (n : Nat) (i d : Nat), 61 < i + n → i ≤ q2 ∧ d ≤ i → zfa T q2 (q2 - i) 0 (d : Int) = zfault T q2 → Z l X G Y 1 0 0 10 [(0, .ref ((B 0)))] [] [((B 0), .inr (5, [.ref ((B 1)), .ref ((B 2)), .int (iI ((q0 : Int))), .ref ((B 3)), .int (iI ((q1 : Int))), .ref ((B 4)), .ref ((B 5)), .int (iI ((q2 : Int))), .int (iI ((i : Int))), .int (iI ((d : Int))), .ref ((B 6)), .ref ((B 7)), .int (iI ((q5 : Int))), .int (iI ((q6 : Int))), .ref ((B 8)), .ref ((B 9)), .ref ((B 10)), .ref ((B 11)), .ref ((B 12)), .int (iI ((q7 : Int)))])), cI G (B 5) 60 T] := by
    intro n
    induction n with
    | zero => intro i d hn0 hid hz; exact absurd hn (by omega)
    | succ n ih =>
      intro i d hn0 hid hz
      refine z_aload_n (pc := 10) C dX5_fault_10 0 rfl ?_
      refine z_callV (As := []) (rest := []) (wc := [((B 0), .inr (5, [.ref ((B 1)), .ref ((B 2)), .int (iI ((q0 : Int))), .ref ((B 3)), .int (iI ((q1 : Int))), .ref ((B 4)), .ref ((B 5)), .int (iI ((q2 : Int))), .int (iI ((i : Int))), .int (iI ((d : Int))), .ref ((B 6)), .ref ((B 7)), .int (iI ((q5 : Int))), .int (iI ((q6 : Int))), .ref ((B 8)), .ref ((B 9)), .ref ((B 10)), .ref ((B 11)), .ref ((B 12)), .int (iI ((q7 : Int)))])), cI G (B 5) 60 T]) (wr := []) (fs := [.ref ((B 1)), .ref ((B 2)), .int (iI ((q0 : Int))), .ref ((B 3)), .int (iI ((q1 : Int))), .ref ((B 4)), .ref ((B 5)), .int (iI ((q2 : Int))), .int (iI ((i : Int))), .int (iI ((d : Int))), .ref ((B 6)), .ref ((B 7)), .int (iI ((q5 : Int))), .int (iI ((q6 : Int))), .ref ((B 8)), .ref ((B 9)), .ref ((B 10)), .ref ((B 11)), .ref ((B 12)), .int (iI ((q7 : Int)))]) (pc := 11) C dX5_fault_11 (k_X5_isRepeat l G B q0 q1 q2 i d q5 q6 q7 T hT hn (by omega)) gX5_fault_X5_isRepeat ⟨⟨_, rfl⟩, ⟨rfl, rfl⟩, nyX5_isRepeat, ⟨Nat.le_of_ble_eq_true rfl, Nat.le_of_ble_eq_true rfl⟩⟩ rfl zCl5 rfl (fun h => h) rfl (Nat.le_of_ble_eq_true rfl) [0, 1] [] rfl rfl (by decide) (by decide) (by decide) ⟨Nat.le_of_ble_eq_true rfl, Nat.le_of_ble_eq_true rfl⟩ (fun v w hk => ?_)
      obtain ⟨r_11, h11_0, rfl, rfl⟩ := hk
      refine z_fix (pc2 := 14) (st2 := [.int (iI r_11)]) (ws' := [((B 0), .inr (5, [.ref ((B 1)), .ref ((B 2)), .int (iI ((q0 : Int))), .ref ((B 3)), .int (iI ((q1 : Int))), .ref ((B 4)), .ref ((B 5)), .int (iI ((q2 : Int))), .int (iI ((i : Int))), .int (iI ((d : Int))), .ref ((B 6)), .ref ((B 7)), .int (iI ((q5 : Int))), .int (iI ((q6 : Int))), .ref ((B 8)), .ref ((B 9)), .ref ((B 10)), .ref ((B 11)), .ref ((B 12)), .int (iI ((q7 : Int)))])), cI G (B 5) 60 T]) [0, 1] rfl rfl rfl (by decide) ?_
      refine z_if_eq (tgt := 40) (pc := 14) C dX5_fault_14 (by decide) ⟨by omega, by omega⟩ (fun c14 => ?_) (fun c14 => ?_)
      · have hnr : ¬ zrpt T q2 i := (h11_0.resolve_left (fun q => by omega)).2
        refine z_aload_n (pc := 40) C dX5_fault_40 0 rfl ?_
        refine z_callV (As := []) (rest := []) (wc := [((B 0), .inr (5, [.ref ((B 1)), .ref ((B 2)), .int (iI ((q0 : Int))), .ref ((B 3)), .int (iI ((q1 : Int))), .ref ((B 4)), .ref ((B 5)), .int (iI ((q2 : Int))), .int (iI ((i : Int))), .int (iI ((d : Int))), .ref ((B 6)), .ref ((B 7)), .int (iI ((q5 : Int))), .int (iI ((q6 : Int))), .ref ((B 8)), .ref ((B 9)), .ref ((B 10)), .ref ((B 11)), .ref ((B 12)), .int (iI ((q7 : Int)))])), cI G (B 5) 60 T]) (wr := []) (fs := [.ref ((B 1)), .ref ((B 2)), .int (iI ((q0 : Int))), .ref ((B 3)), .int (iI ((q1 : Int))), .ref ((B 4)), .ref ((B 5)), .int (iI ((q2 : Int))), .int (iI ((i : Int))), .int (iI ((d : Int))), .ref ((B 6)), .ref ((B 7)), .int (iI ((q5 : Int))), .int (iI ((q6 : Int))), .ref ((B 8)), .ref ((B 9)), .ref ((B 10)), .ref ((B 11)), .ref ((B 12)), .int (iI ((q7 : Int)))]) (pc := 41) C dX5_fault_41 (k_X5_passesItem l G B q0 q1 q2 i d q5 q6 q7 T hT hn (by omega)) gX5_fault_X5_passesItem ⟨⟨_, rfl⟩, ⟨rfl, rfl⟩, nyX5_passesItem, ⟨Nat.le_of_ble_eq_true rfl, Nat.le_of_ble_eq_true rfl⟩⟩ rfl zCl5 rfl (fun h => h) rfl (Nat.le_of_ble_eq_true rfl) [0, 1] [] rfl rfl (by decide) (by decide) (by decide) ⟨Nat.le_of_ble_eq_true rfl, Nat.le_of_ble_eq_true rfl⟩ (fun v w hk => ?_)
        obtain ⟨rfl, rfl⟩ := hk
        refine z_fix (pc2 := 44) (st2 := [.int (iI ((zpq T q2 i).1))]) (ws' := [((B 0), .inr (5, [.ref ((B 1)), .ref ((B 2)), .int (iI ((q0 : Int))), .ref ((B 3)), .int (iI ((q1 : Int))), .ref ((B 4)), .ref ((B 5)), .int (iI ((q2 : Int))), .int (iI ((((zpq T q2 i).2 : Nat) : Int))), .int (iI ((d : Int))), .ref ((B 6)), .ref ((B 7)), .int (iI ((q5 : Int))), .int (iI ((q6 : Int))), .ref ((B 8)), .ref ((B 9)), .ref ((B 10)), .ref ((B 11)), .ref ((B 12)), .int (iI ((q7 : Int)))])), cI G (B 5) 60 T]) [0, 1] rfl rfl rfl (by decide) ?_
        have J95 : ∀ (j u : Nat), i + 2 ≤ j → j ≤ q2 → u ≤ j → zfa T q2 (q2 - j) 5 (u : Int) = zfault T q2 → ¬ (0 < u ∧ zcx T q2 j = 41) → Z l X G Y 1 0 0 95 [(0, .ref ((B 0)))] [] [((B 0), .inr (5, [.ref ((B 1)), .ref ((B 2)), .int (iI ((q0 : Int))), .ref ((B 3)), .int (iI ((q1 : Int))), .ref ((B 4)), .ref ((B 5)), .int (iI ((q2 : Int))), .int (iI ((j : Int))), .int (iI ((u : Int))), .ref ((B 6)), .ref ((B 7)), .int (iI ((q5 : Int))), .int (iI ((q6 : Int))), .ref ((B 8)), .ref ((B 9)), .ref ((B 10)), .ref ((B 11)), .ref ((B 12)), .int (iI ((q7 : Int)))])), cI G (B 5) 60 T] := by
          intro j u hj1 hj hu hju hnc
          have zbj2 := zcx_b hT q2 j
          refine z_aload_n (pc := 95) C dX5_fault_95 0 rfl ?_
          refine z_get (pc := 96) C dX5_fault_96 zCl5 ffX5_fault_141 0 rfl rfl ?_
          refine z_aload_n (pc := 99) C dX5_fault_99 0 rfl ?_
          refine z_get (pc := 100) C dX5_fault_100 zCl5 ffX5_fault_138 0 rfl rfl ?_
          refine z_icmp_ne (tgt := 116) (pc := 103) C dX5_fault_103 (by decide) ⟨by omega, by omega⟩ ⟨by omega, by omega⟩ (fun c103 => ?_) (fun c103 => ?_)
          · refine z_aload_n (pc := 116) C dX5_fault_116 0 rfl ?_
            refine z_aload_n (pc := 117) C dX5_fault_117 0 rfl ?_
            refine z_get (pc := 118) C dX5_fault_118 zCl5 ffX5_fault_141 0 rfl rfl ?_
            refine z_callV (As := [.int (iI ((j : Int)))]) (rest := []) (wc := [((B 0), .inr (5, [.ref ((B 1)), .ref ((B 2)), .int (iI ((q0 : Int))), .ref ((B 3)), .int (iI ((q1 : Int))), .ref ((B 4)), .ref ((B 5)), .int (iI ((q2 : Int))), .int (iI ((j : Int))), .int (iI ((u : Int))), .ref ((B 6)), .ref ((B 7)), .int (iI ((q5 : Int))), .int (iI ((q6 : Int))), .ref ((B 8)), .ref ((B 9)), .ref ((B 10)), .ref ((B 11)), .ref ((B 12)), .int (iI ((q7 : Int)))])), cI G (B 5) 60 T]) (wr := []) (fs := [.ref ((B 1)), .ref ((B 2)), .int (iI ((q0 : Int))), .ref ((B 3)), .int (iI ((q1 : Int))), .ref ((B 4)), .ref ((B 5)), .int (iI ((q2 : Int))), .int (iI ((j : Int))), .int (iI ((u : Int))), .ref ((B 6)), .ref ((B 7)), .int (iI ((q5 : Int))), .int (iI ((q6 : Int))), .ref ((B 8)), .ref ((B 9)), .ref ((B 10)), .ref ((B 11)), .ref ((B 12)), .int (iI ((q7 : Int)))]) (pc := 121) C dX5_fault_121 (k_X5_codeAt l G B q0 q1 q2 j u q5 q6 q7 T j hn (by omega)) gX5_fault_X5_codeAt ⟨⟨_, rfl⟩, ⟨rfl, rfl⟩, nyX5_codeAt, ⟨Nat.le_of_ble_eq_true rfl, Nat.le_of_ble_eq_true rfl⟩⟩ rfl zCl5 rfl (fun h => h) rfl (Nat.le_of_ble_eq_true rfl) [0, 1] [] rfl rfl (by decide) (by decide) (by decide) ⟨Nat.le_of_ble_eq_true rfl, Nat.le_of_ble_eq_true rfl⟩ (fun v w hk => ?_)
            obtain ⟨rfl, rfl⟩ := hk
            refine z_fix (pc2 := 124) (st2 := [.int (iI ((zcx T q2 j)))]) (ws' := [((B 0), .inr (5, [.ref ((B 1)), .ref ((B 2)), .int (iI ((q0 : Int))), .ref ((B 3)), .int (iI ((q1 : Int))), .ref ((B 4)), .ref ((B 5)), .int (iI ((q2 : Int))), .int (iI ((j : Int))), .int (iI ((u : Int))), .ref ((B 6)), .ref ((B 7)), .int (iI ((q5 : Int))), .int (iI ((q6 : Int))), .ref ((B 8)), .ref ((B 9)), .ref ((B 10)), .ref ((B 11)), .ref ((B 12)), .int (iI ((q7 : Int)))])), cI G (B 5) 60 T]) [0, 1] rfl rfl rfl (by decide) ?_
            refine z_bipush (pc := 124) C dX5_fault_124 (by decide +kernel) ?_
            refine z_icmp_eq (tgt := 134) (pc := 126) C dX5_fault_126 (by decide) ⟨by omega, by omega⟩ (by decide) (fun c126 => ?_) (fun c126 => ?_)
            · have hcm := zfa_comma (T := T) (n := q2) (j := j) (d := (u : Int)) (by omega)
              have hcm1 := hcm.1
              refine z_aload_n (pc := 134) C dX5_fault_134 0 rfl ?_
              refine z_dup (pc := 135) C dX5_fault_135 rfl ?_
              refine z_get (pc := 136) C dX5_fault_136 zCl5 ffX5_fault_141 0 rfl rfl ?_
              refine z_iconst (pc := 139) C dX5_fault_139 ?_
              refine z_iadd (pc := 140) C dX5_fault_140 ?_
              refine z_put (ty := .int) (ws' := [((B 0), .inr (5, [.ref ((B 1)), .ref ((B 2)), .int (iI ((q0 : Int))), .ref ((B 3)), .int (iI ((q1 : Int))), .ref ((B 4)), .ref ((B 5)), .int (iI ((q2 : Int))), .int (iI (((j : Int) + 1))), .int (iI ((u : Int))), .ref ((B 6)), .ref ((B 7)), .int (iI ((q5 : Int))), .int (iI ((q6 : Int))), .ref ((B 8)), .ref ((B 9)), .ref ((B 10)), .ref ((B 11)), .ref ((B 12)), .int (iI ((q7 : Int)))])), cI G (B 5) 60 T]) (pc := 141) C dX5_fault_141 zCl5 ffX5_fault_141 0 rfl rfl rfl rfl rfl (Nat.le_of_ble_eq_true rfl) rfl ?_
              refine z_goto (tgt := 10) (pc := 144) C dX5_fault_144 (by decide) ?_
              exact ih (j + 1) u (by omega) ⟨by omega, by omega⟩ (by rw [← hju, hcm.2])
            · refine z_aload_n (pc := 129) C dX5_fault_129 0 rfl ?_
              refine z_get (pc := 130) C dX5_fault_130 zCl5 ffX5_fault_141 0 rfl rfl ?_
              refine z_topi (y := (zfault T q2)) (by rw [← hju, zfa_not hj (by omega) (by omega) (by omega)]) ?_
              exact z_iret (pc := 133) C R0 dX5_fault_133 (⟨_, _, rfl, rfl⟩)
          · refine z_aload_n (pc := 106) C dX5_fault_106 0 rfl ?_
            refine z_get (pc := 107) C dX5_fault_107 zCl5 ffX5_fault_153 0 rfl rfl ?_
            refine z_if_ne (tgt := 116) (pc := 110) C dX5_fault_110 (by decide) ⟨by omega, by omega⟩ (fun c110 => ?_) (fun c110 => ?_)
            · refine z_aload_n (pc := 116) C dX5_fault_116 0 rfl ?_
              refine z_aload_n (pc := 117) C dX5_fault_117 0 rfl ?_
              refine z_get (pc := 118) C dX5_fault_118 zCl5 ffX5_fault_141 0 rfl rfl ?_
              refine z_callV (As := [.int (iI ((j : Int)))]) (rest := []) (wc := [((B 0), .inr (5, [.ref ((B 1)), .ref ((B 2)), .int (iI ((q0 : Int))), .ref ((B 3)), .int (iI ((q1 : Int))), .ref ((B 4)), .ref ((B 5)), .int (iI ((q2 : Int))), .int (iI ((j : Int))), .int (iI ((u : Int))), .ref ((B 6)), .ref ((B 7)), .int (iI ((q5 : Int))), .int (iI ((q6 : Int))), .ref ((B 8)), .ref ((B 9)), .ref ((B 10)), .ref ((B 11)), .ref ((B 12)), .int (iI ((q7 : Int)))])), cI G (B 5) 60 T]) (wr := []) (fs := [.ref ((B 1)), .ref ((B 2)), .int (iI ((q0 : Int))), .ref ((B 3)), .int (iI ((q1 : Int))), .ref ((B 4)), .ref ((B 5)), .int (iI ((q2 : Int))), .int (iI ((j : Int))), .int (iI ((u : Int))), .ref ((B 6)), .ref ((B 7)), .int (iI ((q5 : Int))), .int (iI ((q6 : Int))), .ref ((B 8)), .ref ((B 9)), .ref ((B 10)), .ref ((B 11)), .ref ((B 12)), .int (iI ((q7 : Int)))]) (pc := 121) C dX5_fault_121 (k_X5_codeAt l G B q0 q1 q2 j u q5 q6 q7 T j hn (by omega)) gX5_fault_X5_codeAt ⟨⟨_, rfl⟩, ⟨rfl, rfl⟩, nyX5_codeAt, ⟨Nat.le_of_ble_eq_true rfl, Nat.le_of_ble_eq_true rfl⟩⟩ rfl zCl5 rfl (fun h => h) rfl (Nat.le_of_ble_eq_true rfl) [0, 1] [] rfl rfl (by decide) (by decide) (by decide) ⟨Nat.le_of_ble_eq_true rfl, Nat.le_of_ble_eq_true rfl⟩ (fun v w hk => ?_)
              obtain ⟨rfl, rfl⟩ := hk
              refine z_fix (pc2 := 124) (st2 := [.int (iI ((zcx T q2 j)))]) (ws' := [((B 0), .inr (5, [.ref ((B 1)), .ref ((B 2)), .int (iI ((q0 : Int))), .ref ((B 3)), .int (iI ((q1 : Int))), .ref ((B 4)), .ref ((B 5)), .int (iI ((q2 : Int))), .int (iI ((j : Int))), .int (iI ((u : Int))), .ref ((B 6)), .ref ((B 7)), .int (iI ((q5 : Int))), .int (iI ((q6 : Int))), .ref ((B 8)), .ref ((B 9)), .ref ((B 10)), .ref ((B 11)), .ref ((B 12)), .int (iI ((q7 : Int)))])), cI G (B 5) 60 T]) [0, 1] rfl rfl rfl (by decide) ?_
              refine z_bipush (pc := 124) C dX5_fault_124 (by decide +kernel) ?_
              refine z_icmp_eq (tgt := 134) (pc := 126) C dX5_fault_126 (by decide) ⟨by omega, by omega⟩ (by decide) (fun c126 => ?_) (fun c126 => ?_)
              · have hcm := zfa_comma (T := T) (n := q2) (j := j) (d := (u : Int)) (by omega)
                have hcm1 := hcm.1
                refine z_aload_n (pc := 134) C dX5_fault_134 0 rfl ?_
                refine z_dup (pc := 135) C dX5_fault_135 rfl ?_
                refine z_get (pc := 136) C dX5_fault_136 zCl5 ffX5_fault_141 0 rfl rfl ?_
                refine z_iconst (pc := 139) C dX5_fault_139 ?_
                refine z_iadd (pc := 140) C dX5_fault_140 ?_
                refine z_put (ty := .int) (ws' := [((B 0), .inr (5, [.ref ((B 1)), .ref ((B 2)), .int (iI ((q0 : Int))), .ref ((B 3)), .int (iI ((q1 : Int))), .ref ((B 4)), .ref ((B 5)), .int (iI ((q2 : Int))), .int (iI (((j : Int) + 1))), .int (iI ((u : Int))), .ref ((B 6)), .ref ((B 7)), .int (iI ((q5 : Int))), .int (iI ((q6 : Int))), .ref ((B 8)), .ref ((B 9)), .ref ((B 10)), .ref ((B 11)), .ref ((B 12)), .int (iI ((q7 : Int)))])), cI G (B 5) 60 T]) (pc := 141) C dX5_fault_141 zCl5 ffX5_fault_141 0 rfl rfl rfl rfl rfl (Nat.le_of_ble_eq_true rfl) rfl ?_
                refine z_goto (tgt := 10) (pc := 144) C dX5_fault_144 (by decide) ?_
                exact ih (j + 1) u (by omega) ⟨by omega, by omega⟩ (by rw [← hju, hcm.2])
              · refine z_aload_n (pc := 129) C dX5_fault_129 0 rfl ?_
                refine z_get (pc := 130) C dX5_fault_130 zCl5 ffX5_fault_141 0 rfl rfl ?_
                refine z_topi (y := (zfault T q2)) (by rw [← hju, zfa_not hj (by omega) (by omega) (by omega)]) ?_
                exact z_iret (pc := 133) C R0 dX5_fault_133 (⟨_, _, rfl, rfl⟩)
            · refine z_bipush (pc := 113) C dX5_fault_113 (by decide +kernel) ?_
              have ht115 : (-5) = (zfault T q2) := by
                obtain rfl : j = q2 := by omega
                rw [← hju, show ((u : Nat) : Int) = 0 by omega]
                exact zfa_fin.symm
              refine z_topi (y := (zfault T q2)) (ht115) ?_
              exact z_iret (pc := 115) C R0 dX5_fault_115 (⟨_, _, rfl, rfl⟩)
        refine z_if_ne (tgt := 52) (pc := 44) C dX5_fault_44 (by decide) ⟨Int.le_trans (by decide) (zpq_b T q2 i).1, Int.le_trans (zpq_b T q2 i).2 (by decide)⟩ (fun c44 => ?_) (fun c44 => ?_)
        · have hzb := zpq_b T q2 i
          have hit := zfa_item (d := (d : Int)) hnr (show (zpq T q2 i).1 = 1 by omega)
          obtain ⟨hi1, hi2, hi3⟩ := hit
          have L52 : ∀ (m : Nat) (j u : Nat), 61 < j + m → i + 2 ≤ j → j ≤ q2 → u ≤ j → zfa T q2 (q2 - j) 5 (u : Int) = zfault T q2 → Z l X G Y 1 0 0 52 [(0, .ref ((B 0)))] [] [((B 0), .inr (5, [.ref ((B 1)), .ref ((B 2)), .int (iI ((q0 : Int))), .ref ((B 3)), .int (iI ((q1 : Int))), .ref ((B 4)), .ref ((B 5)), .int (iI ((q2 : Int))), .int (iI ((j : Int))), .int (iI ((u : Int))), .ref ((B 6)), .ref ((B 7)), .int (iI ((q5 : Int))), .int (iI ((q6 : Int))), .ref ((B 8)), .ref ((B 9)), .ref ((B 10)), .ref ((B 11)), .ref ((B 12)), .int (iI ((q7 : Int)))])), cI G (B 5) 60 T] := by
            intro m
            induction m with
            | zero => intro j u hn1 hj1 hj hu hju; exact absurd hn (by omega)
            | succ m ih =>
              intro j u hn1 hj1 hj hu hju
              refine z_aload_n (pc := 52) C dX5_fault_52 0 rfl ?_
              refine z_get (pc := 53) C dX5_fault_53 zCl5 ffX5_fault_153 0 rfl rfl ?_
              refine z_if_le (tgt := 95) (pc := 56) C dX5_fault_56 (by decide) ⟨by omega, by omega⟩ (fun c56 => ?_) (fun c56 => ?_)
              · exact J95 j u hj1 hj hu hju (by omega)
              · refine z_aload_n (pc := 59) C dX5_fault_59 0 rfl ?_
                refine z_aload_n (pc := 60) C dX5_fault_60 0 rfl ?_
                refine z_get (pc := 61) C dX5_fault_61 zCl5 ffX5_fault_141 0 rfl rfl ?_
                refine z_callV (As := [.int (iI ((j : Int)))]) (rest := []) (wc := [((B 0), .inr (5, [.ref ((B 1)), .ref ((B 2)), .int (iI ((q0 : Int))), .ref ((B 3)), .int (iI ((q1 : Int))), .ref ((B 4)), .ref ((B 5)), .int (iI ((q2 : Int))), .int (iI ((j : Int))), .int (iI ((u : Int))), .ref ((B 6)), .ref ((B 7)), .int (iI ((q5 : Int))), .int (iI ((q6 : Int))), .ref ((B 8)), .ref ((B 9)), .ref ((B 10)), .ref ((B 11)), .ref ((B 12)), .int (iI ((q7 : Int)))])), cI G (B 5) 60 T]) (wr := []) (fs := [.ref ((B 1)), .ref ((B 2)), .int (iI ((q0 : Int))), .ref ((B 3)), .int (iI ((q1 : Int))), .ref ((B 4)), .ref ((B 5)), .int (iI ((q2 : Int))), .int (iI ((j : Int))), .int (iI ((u : Int))), .ref ((B 6)), .ref ((B 7)), .int (iI ((q5 : Int))), .int (iI ((q6 : Int))), .ref ((B 8)), .ref ((B 9)), .ref ((B 10)), .ref ((B 11)), .ref ((B 12)), .int (iI ((q7 : Int)))]) (pc := 64) C dX5_fault_64 (k_X5_codeAt l G B q0 q1 q2 j u q5 q6 q7 T j hn (by omega)) gX5_fault_X5_codeAt ⟨⟨_, rfl⟩, ⟨rfl, rfl⟩, nyX5_codeAt, ⟨Nat.le_of_ble_eq_true rfl, Nat.le_of_ble_eq_true rfl⟩⟩ rfl zCl5 rfl (fun h => h) rfl (Nat.le_of_ble_eq_true rfl) [0, 1] [] rfl rfl (by decide) (by decide) (by decide) ⟨Nat.le_of_ble_eq_true rfl, Nat.le_of_ble_eq_true rfl⟩ (fun v w hk => ?_)
                obtain ⟨rfl, rfl⟩ := hk
                refine z_fix (pc2 := 67) (st2 := [.int (iI ((zcx T q2 j)))]) (ws' := [((B 0), .inr (5, [.ref ((B 1)), .ref ((B 2)), .int (iI ((q0 : Int))), .ref ((B 3)), .int (iI ((q1 : Int))), .ref ((B 4)), .ref ((B 5)), .int (iI ((q2 : Int))), .int (iI ((j : Int))), .int (iI ((u : Int))), .ref ((B 6)), .ref ((B 7)), .int (iI ((q5 : Int))), .int (iI ((q6 : Int))), .ref ((B 8)), .ref ((B 9)), .ref ((B 10)), .ref ((B 11)), .ref ((B 12)), .int (iI ((q7 : Int)))])), cI G (B 5) 60 T]) [0, 1] rfl rfl rfl (by decide) ?_
                have zbj := zcx_b hT q2 j
                refine z_bipush (pc := 67) C dX5_fault_67 (by decide +kernel) ?_
                refine z_icmp_ne (tgt := 95) (pc := 69) C dX5_fault_69 (by decide) ⟨by omega, by omega⟩ (by decide) (fun c69 => ?_) (fun c69 => ?_)
                · exact J95 j u hj1 hj hu hju (by omega)
                · have hcl := zfa_close (T := T) (n := q2) (j := j) (d := (u : Int)) (by omega) (by omega)
                  have hcl1 := hcl.1
                  refine z_aload_n (pc := 72) C dX5_fault_72 0 rfl ?_
                  refine z_dup (pc := 73) C dX5_fault_73 rfl ?_
                  refine z_get (pc := 74) C dX5_fault_74 zCl5 ffX5_fault_141 0 rfl rfl ?_
                  refine z_iconst (pc := 77) C dX5_fault_77 ?_
                  refine z_iadd (pc := 78) C dX5_fault_78 ?_
                  refine z_put (ty := .int) (ws' := [((B 0), .inr (5, [.ref ((B 1)), .ref ((B 2)), .int (iI ((q0 : Int))), .ref ((B 3)), .int (iI ((q1 : Int))), .ref ((B 4)), .ref ((B 5)), .int (iI ((q2 : Int))), .int (iI (((j : Int) + 1))), .int (iI ((u : Int))), .ref ((B 6)), .ref ((B 7)), .int (iI ((q5 : Int))), .int (iI ((q6 : Int))), .ref ((B 8)), .ref ((B 9)), .ref ((B 10)), .ref ((B 11)), .ref ((B 12)), .int (iI ((q7 : Int)))])), cI G (B 5) 60 T]) (pc := 79) C dX5_fault_79 zCl5 ffX5_fault_141 0 rfl rfl rfl rfl rfl (Nat.le_of_ble_eq_true rfl) rfl ?_
                  refine z_aload_n (pc := 82) C dX5_fault_82 0 rfl ?_
                  refine z_dup (pc := 83) C dX5_fault_83 rfl ?_
                  refine z_get (pc := 84) C dX5_fault_84 zCl5 ffX5_fault_153 0 rfl rfl ?_
                  refine z_iconst (pc := 87) C dX5_fault_87 ?_
                  refine z_isub (pc := 88) C dX5_fault_88 ?_
                  refine z_put (ty := .int) (ws' := [((B 0), .inr (5, [.ref ((B 1)), .ref ((B 2)), .int (iI ((q0 : Int))), .ref ((B 3)), .int (iI ((q1 : Int))), .ref ((B 4)), .ref ((B 5)), .int (iI ((q2 : Int))), .int (iI (((j : Int) + 1))), .int (iI (((u : Int) - 1))), .ref ((B 6)), .ref ((B 7)), .int (iI ((q5 : Int))), .int (iI ((q6 : Int))), .ref ((B 8)), .ref ((B 9)), .ref ((B 10)), .ref ((B 11)), .ref ((B 12)), .int (iI ((q7 : Int)))])), cI G (B 5) 60 T]) (pc := 89) C dX5_fault_89 zCl5 ffX5_fault_153 0 rfl rfl rfl rfl rfl (Nat.le_of_ble_eq_true rfl) rfl ?_
                  refine z_goto (tgt := 52) (pc := 92) C dX5_fault_92 (by decide) ?_
                  refine z_ws (ws' := [((B 0), .inr (5, [.ref ((B 1)), .ref ((B 2)), .int (iI ((q0 : Int))), .ref ((B 3)), .int (iI ((q1 : Int))), .ref ((B 4)), .ref ((B 5)), .int (iI ((q2 : Int))), .int (iI ((((j + 1) : Nat) : Int))), .int (iI ((((u - 1) : Nat) : Int))), .ref ((B 6)), .ref ((B 7)), .int (iI ((q5 : Int))), .int (iI ((q6 : Int))), .ref ((B 8)), .ref ((B 9)), .ref ((B 10)), .ref ((B 11)), .ref ((B 12)), .int (iI ((q7 : Int)))])), cI G (B 5) 60 T]) [0, 1] (by rw [show ((u - 1 : Nat) : Int) = (u : Int) - 1 by omega]; rfl) (by decide) ?_
                  exact ih (j + 1) (u - 1) (by omega) (by omega) (by omega) (by omega) (by rw [← hju, hcl.2, show ((u - 1 : Nat) : Int) = (u : Int) - 1 by omega])
          exact L52 62 (zpq T q2 i).2 d (by omega) hi1 hi2 (by omega) (by rw [← hi3]; exact hz)
        · have hbad := zfa_bad (d := (d : Int)) hnr hid.1 (show ¬ (zpq T q2 i).1 = 1 by omega)
          refine z_aload_n (pc := 47) C dX5_fault_47 0 rfl ?_
          refine z_get (pc := 48) C dX5_fault_48 zCl5 ffX5_fault_141 0 rfl rfl ?_
          refine z_topi (y := (zfault T q2)) (by rw [← hz, hbad]) ?_
          exact z_iret (pc := 51) C R0 dX5_fault_51 (⟨_, _, rfl, rfl⟩)
      · have hr := zfa_rpt (d := (d : Int)) (h11_0.resolve_right (fun q => by omega)).2
        have hr1 := hr.1
        refine z_aload_n (pc := 17) C dX5_fault_17 0 rfl ?_
        refine z_dup (pc := 18) C dX5_fault_18 rfl ?_
        refine z_get (pc := 19) C dX5_fault_19 zCl5 ffX5_fault_141 0 rfl rfl ?_
        refine z_iconst (pc := 22) C dX5_fault_22 ?_
        refine z_iadd (pc := 23) C dX5_fault_23 ?_
        refine z_put (ty := .int) (ws' := [((B 0), .inr (5, [.ref ((B 1)), .ref ((B 2)), .int (iI ((q0 : Int))), .ref ((B 3)), .int (iI ((q1 : Int))), .ref ((B 4)), .ref ((B 5)), .int (iI ((q2 : Int))), .int (iI (((i : Int) + 2))), .int (iI ((d : Int))), .ref ((B 6)), .ref ((B 7)), .int (iI ((q5 : Int))), .int (iI ((q6 : Int))), .ref ((B 8)), .ref ((B 9)), .ref ((B 10)), .ref ((B 11)), .ref ((B 12)), .int (iI ((q7 : Int)))])), cI G (B 5) 60 T]) (pc := 24) C dX5_fault_24 zCl5 ffX5_fault_141 0 rfl rfl rfl rfl rfl (Nat.le_of_ble_eq_true rfl) rfl ?_
        refine z_aload_n (pc := 27) C dX5_fault_27 0 rfl ?_
        refine z_dup (pc := 28) C dX5_fault_28 rfl ?_
        refine z_get (pc := 29) C dX5_fault_29 zCl5 ffX5_fault_153 0 rfl rfl ?_
        refine z_iconst (pc := 32) C dX5_fault_32 ?_
        refine z_iadd (pc := 33) C dX5_fault_33 ?_
        refine z_put (ty := .int) (ws' := [((B 0), .inr (5, [.ref ((B 1)), .ref ((B 2)), .int (iI ((q0 : Int))), .ref ((B 3)), .int (iI ((q1 : Int))), .ref ((B 4)), .ref ((B 5)), .int (iI ((q2 : Int))), .int (iI (((i : Int) + 2))), .int (iI (((d : Int) + 1))), .ref ((B 6)), .ref ((B 7)), .int (iI ((q5 : Int))), .int (iI ((q6 : Int))), .ref ((B 8)), .ref ((B 9)), .ref ((B 10)), .ref ((B 11)), .ref ((B 12)), .int (iI ((q7 : Int)))])), cI G (B 5) 60 T]) (pc := 34) C dX5_fault_34 zCl5 ffX5_fault_153 0 rfl rfl rfl rfl rfl (Nat.le_of_ble_eq_true rfl) rfl ?_
        refine z_goto (tgt := 10) (pc := 37) C dX5_fault_37 (by decide) ?_
        exact ih (i + 2) (d + 1) (by omega) ⟨by omega, by omega⟩ (by rw [← hz]; exact hr.2.symm)
  exact L10 62 0 0 (by omega) ⟨by omega, by omega⟩ rfl
