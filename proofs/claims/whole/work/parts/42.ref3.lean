/-! THE REFERENCE, walked: words and stretches put, levels turned round, falls -/
theorem ffX5_putWord_7 : zFF wsX5_putWord RX5 7 RX5 TX5 20 0 := ⟨by decide +kernel, by decide, by decide +kernel⟩
theorem nyX5_bitMany : yX5_bitMany.cls ≠ "java/lang/invoke/MethodHandle" ∧ yX5_bitMany.cls ≠ "java/lang/invoke/VarHandle" ∧ (parseMethodDescriptor yX5_bitMany.desc).map (fun d => d.parameters.length) = some 0 := by decide +kernel
theorem nyX5_lengthOf : yX5_lengthOf.cls ≠ "java/lang/invoke/MethodHandle" ∧ yX5_lengthOf.cls ≠ "java/lang/invoke/VarHandle" ∧ (parseMethodDescriptor yX5_lengthOf.desc).map (fun d => d.parameters.length) = some 1 := by decide +kernel
set_option maxHeartbeats 4000000 in
set_option maxRecDepth 100000 in
theorem k_X5_putWord_f (l : Launch) (G : ZG) (B : Nat → Nat) (q0 q1 q2 q3 q4 q5 q6 q7 : Nat) (M : Nat → Int) (w : Nat) (s : ZS) (hs : zIs s) (hM : zMs M s) (hw : w ≤ 255) (hr : 1500 - (s.2.2.2.1 : Int) < ztk s.2.2.1) : Kt l G yX5_putWord wsX5_putWord { frames := 3, cells := 0, slots := 0, locals := 67 } 0 0 False [.ref ((B 0)), .int (iI ((w : Int)))] [((B 0), .inr (5, [.ref ((B 1)), .ref ((B 2)), .int (iI ((q0 : Int))), .ref ((B 3)), .int (iI ((q1 : Int))), .ref ((B 4)), .ref ((B 5)), .int (iI ((q2 : Int))), .int (iI ((q3 : Int))), .int (iI ((q4 : Int))), .ref ((B 6)), .ref ((B 7)), .int (iI ((q5 : Int))), .int (iI ((q6 : Int))), .ref ((B 8)), .ref ((B 9)), .ref ((B 10)), .ref ((B 11)), .ref ((B 12)), .int (iI ((q7 : Int)))])), cI G (B 1) 1547 M] (fun v9 w9 => v9 = some (.int (iI 0)) ∧ w9 = [((B 0), .inr (5, [.ref ((B 1)), .ref ((B 2)), .int (iI ((q0 : Int))), .ref ((B 3)), .int (iI ((q1 : Int))), .ref ((B 4)), .ref ((B 5)), .int (iI ((q2 : Int))), .int (iI ((q3 : Int))), .int (iI ((q4 : Int))), .ref ((B 6)), .ref ((B 7)), .int (iI ((q5 : Int))), .int (iI ((q6 : Int))), .ref ((B 8)), .ref ((B 9)), .ref ((B 10)), .ref ((B 11)), .ref ((B 12)), .int (iI ((q7 : Int)))])), cI G (B 1) 1547 M]) := by
  refine Kt.of (cc := cX5_putWord) (nL := 7) (ret := (some .boolean)) (own := RX5) rfl (by decide +kernel) rfl (Nat.le_of_ble_eq_true rfl) ?_
  intro X Y C R0 hin
  show Z l X G Y 7 0 0 0 [(0, .ref ((B 0))), (1, .int (iI ((w : Int))))] [] [((B 0), .inr (5, [.ref ((B 1)), .ref ((B 2)), .int (iI ((q0 : Int))), .ref ((B 3)), .int (iI ((q1 : Int))), .ref ((B 4)), .ref ((B 5)), .int (iI ((q2 : Int))), .int (iI ((q3 : Int))), .int (iI ((q4 : Int))), .ref ((B 6)), .ref ((B 7)), .int (iI ((q5 : Int))), .int (iI ((q6 : Int))), .ref ((B 8)), .ref ((B 9)), .ref ((B 10)), .ref ((B 11)), .ref ((B 12)), .int (iI ((q7 : Int)))])), cI G (B 1) 1547 M]
  obtain ⟨m0, m1, m2, m3, m4, m5, m6, he, hk⟩ := zMs_r hs hM
  have htk := ztk_b (S := s.2.2.1) (by omega) (by omega)
  have hbn := zbn_b (S := s.2.2.1) (by omega)
  refine z_aload_n (pc := 0) C dX5_putWord_0 0 rfl ?_
  refine z_get (pc := 1) C dX5_putWord_1 zCl5 ffX5_putWord_7 0 rfl rfl ?_
  refine z_iconst (pc := 4) C dX5_putWord_4 ?_
  refine z_iald (pc := 5) C dX5_putWord_5 1 rfl (5) (rfl) (by omega) (by decide) ?_
  refine z_topi (y := ((s.2.2.2.1 : Nat) : Int)) (m5) ?_
  refine z_istore_n (lv' := [(2, .int (iI (((s.2.2.2.1 : Nat) : Int)))), (0, .ref ((B 0))), (1, .int (iI ((w : Int))))]) (pc := 6) C dX5_putWord_6 (by decide) rfl ?_
  refine z_aload_n (pc := 7) C dX5_putWord_7 1 rfl ?_
  refine z_callV (As := []) (rest := []) (wc := [((B 0), .inr (5, [.ref ((B 1)), .ref ((B 2)), .int (iI ((q0 : Int))), .ref ((B 3)), .int (iI ((q1 : Int))), .ref ((B 4)), .ref ((B 5)), .int (iI ((q2 : Int))), .int (iI ((q3 : Int))), .int (iI ((q4 : Int))), .ref ((B 6)), .ref ((B 7)), .int (iI ((q5 : Int))), .int (iI ((q6 : Int))), .ref ((B 8)), .ref ((B 9)), .ref ((B 10)), .ref ((B 11)), .ref ((B 12)), .int (iI ((q7 : Int)))])), cI G (B 1) 1547 M]) (wr := []) (fs := [.ref ((B 1)), .ref ((B 2)), .int (iI ((q0 : Int))), .ref ((B 3)), .int (iI ((q1 : Int))), .ref ((B 4)), .ref ((B 5)), .int (iI ((q2 : Int))), .int (iI ((q3 : Int))), .int (iI ((q4 : Int))), .ref ((B 6)), .ref ((B 7)), .int (iI ((q5 : Int))), .int (iI ((q6 : Int))), .ref ((B 8)), .ref ((B 9)), .ref ((B 10)), .ref ((B 11)), .ref ((B 12)), .int (iI ((q7 : Int)))]) (pc := 8) C dX5_putWord_8 (k_X5_bitMany l G B q0 q1 q2 q3 q4 q5 q6 q7 M s hs hM) gX5_putWord_X5_bitMany ⟨⟨_, rfl⟩, ⟨rfl, rfl⟩, nyX5_bitMany, ⟨Nat.le_of_ble_eq_true rfl, Nat.le_of_ble_eq_true rfl⟩⟩ rfl zCl5 rfl (fun h => h) rfl (Nat.le_of_ble_eq_true rfl) [0, 1] [] rfl rfl (by decide) (by decide) (by decide) ⟨Nat.le_of_ble_eq_true rfl, Nat.le_of_ble_eq_true rfl⟩ (fun v w hk => ?_)
  obtain ⟨rfl, rfl⟩ := hk
  refine z_fix (pc2 := 11) (st2 := [.int (iI ((zbn s.2.2.1)))]) (ws' := [((B 0), .inr (5, [.ref ((B 1)), .ref ((B 2)), .int (iI ((q0 : Int))), .ref ((B 3)), .int (iI ((q1 : Int))), .ref ((B 4)), .ref ((B 5)), .int (iI ((q2 : Int))), .int (iI ((q3 : Int))), .int (iI ((q4 : Int))), .ref ((B 6)), .ref ((B 7)), .int (iI ((q5 : Int))), .int (iI ((q6 : Int))), .ref ((B 8)), .ref ((B 9)), .ref ((B 10)), .ref ((B 11)), .ref ((B 12)), .int (iI ((q7 : Int)))])), cI G (B 1) 1547 M]) [0, 1] rfl rfl rfl (by decide) ?_
  refine z_istore_n (lv' := [(3, .int (iI ((zbn s.2.2.1)))), (2, .int (iI (((s.2.2.2.1 : Nat) : Int)))), (0, .ref ((B 0))), (1, .int (iI ((w : Int))))]) (pc := 11) C dX5_putWord_11 (by decide) rfl ?_
  refine z_iload_n (pc := 12) C dX5_putWord_12 1 rfl ?_
  refine z_aload_n (pc := 13) C dX5_putWord_13 2 rfl ?_
  refine z_iload_n (pc := 14) C dX5_putWord_14 0 rfl ?_
  refine z_callV (As := [.int (iI ((zbn s.2.2.1)))]) (rest := [.int (iI (((s.2.2.2.1 : Nat) : Int)))]) (wc := [((B 0), .inr (5, [.ref ((B 1)), .ref ((B 2)), .int (iI ((q0 : Int))), .ref ((B 3)), .int (iI ((q1 : Int))), .ref ((B 4)), .ref ((B 5)), .int (iI ((q2 : Int))), .int (iI ((q3 : Int))), .int (iI ((q4 : Int))), .ref ((B 6)), .ref ((B 7)), .int (iI ((q5 : Int))), .int (iI ((q6 : Int))), .ref ((B 8)), .ref ((B 9)), .ref ((B 10)), .ref ((B 11)), .ref ((B 12)), .int (iI ((q7 : Int)))])), cI G (B 1) 1547 M]) (wr := []) (fs := [.ref ((B 1)), .ref ((B 2)), .int (iI ((q0 : Int))), .ref ((B 3)), .int (iI ((q1 : Int))), .ref ((B 4)), .ref ((B 5)), .int (iI ((q2 : Int))), .int (iI ((q3 : Int))), .int (iI ((q4 : Int))), .ref ((B 6)), .ref ((B 7)), .int (iI ((q5 : Int))), .int (iI ((q6 : Int))), .ref ((B 8)), .ref ((B 9)), .ref ((B 10)), .ref ((B 11)), .ref ((B 12)), .int (iI ((q7 : Int)))]) (pc := 15) C dX5_putWord_15 (k_X5_lengthOf l G B q0 q1 q2 q3 q4 q5 q6 q7 M (zbn s.2.2.1) (s.2.2.1 0) m0.2.2 (by omega) ⟨by omega, by omega⟩) gX5_putWord_X5_lengthOf ⟨⟨_, rfl⟩, ⟨rfl, rfl⟩, nyX5_lengthOf, ⟨Nat.le_of_ble_eq_true rfl, Nat.le_of_ble_eq_true rfl⟩⟩ rfl zCl5 rfl (fun h => h) rfl (Nat.le_of_ble_eq_true rfl) [0, 1] [] rfl rfl (by decide) (by decide) (by decide) ⟨Nat.le_of_ble_eq_true rfl, Nat.le_of_ble_eq_true rfl⟩ (fun v w hk => ?_)
  obtain ⟨rfl, rfl⟩ := hk
  refine z_fix (pc2 := 18) (st2 := [.int (iI (((zbn s.2.2.1) * (s.2.2.1 0) / 16))), .int (iI (((s.2.2.2.1 : Nat) : Int)))]) (ws' := [((B 0), .inr (5, [.ref ((B 1)), .ref ((B 2)), .int (iI ((q0 : Int))), .ref ((B 3)), .int (iI ((q1 : Int))), .ref ((B 4)), .ref ((B 5)), .int (iI ((q2 : Int))), .int (iI ((q3 : Int))), .int (iI ((q4 : Int))), .ref ((B 6)), .ref ((B 7)), .int (iI ((q5 : Int))), .int (iI ((q6 : Int))), .ref ((B 8)), .ref ((B 9)), .ref ((B 10)), .ref ((B 11)), .ref ((B 12)), .int (iI ((q7 : Int)))])), cI G (B 1) 1547 M]) [0, 1] rfl rfl rfl (by decide) ?_
  refine z_topi (y := (ztk s.2.2.1)) (rfl) ?_
  refine z_iadd (pc := 18) C dX5_putWord_18 ?_
  refine z_sipush (pc := 19) C dX5_putWord_19 (by decide +kernel) ?_
  refine z_icmp_le (tgt := 27) (pc := 22) C dX5_putWord_22 (by decide) ⟨by omega, by omega⟩ (by decide) (fun c22 => ?_) (fun c22 => ?_)
  · exfalso; omega
  · refine z_iconst (pc := 25) C dX5_putWord_25 ?_
    exact z_zret (pc := 26) C R0 (by decide) dX5_putWord_26 (⟨rfl, rfl⟩)

theorem nyX5_bitsOf : yX5_bitsOf.cls ≠ "java/lang/invoke/MethodHandle" ∧ yX5_bitsOf.cls ≠ "java/lang/invoke/VarHandle" ∧ (parseMethodDescriptor yX5_bitsOf.desc).map (fun d => d.parameters.length) = some 1 := by decide +kernel
set_option maxHeartbeats 4000000 in
set_option maxRecDepth 100000 in
theorem k_X5_putWord_t (l : Launch) (G : ZG) (B : Nat → Nat) (q0 q1 q2 q3 q4 q5 q6 q7 : Nat) (M : Nat → Int) (w : Nat) (s : ZS) (hs : zIs s) (hM : zMs M s) (hw : w ≤ 255) (hr : ztk s.2.2.1 ≤ 1500 - (s.2.2.2.1 : Int)) : Kt l G yX5_putWord wsX5_putWord { frames := 3, cells := 0, slots := 0, locals := 67 } 0 0 False [.ref ((B 0)), .int (iI ((w : Int)))] [((B 0), .inr (5, [.ref ((B 1)), .ref ((B 2)), .int (iI ((q0 : Int))), .ref ((B 3)), .int (iI ((q1 : Int))), .ref ((B 4)), .ref ((B 5)), .int (iI ((q2 : Int))), .int (iI ((q3 : Int))), .int (iI ((q4 : Int))), .ref ((B 6)), .ref ((B 7)), .int (iI ((q5 : Int))), .int (iI ((q6 : Int))), .ref ((B 8)), .ref ((B 9)), .ref ((B 10)), .ref ((B 11)), .ref ((B 12)), .int (iI ((q7 : Int)))])), cI G (B 1) 1547 M] (fun v9 w9 => ∃ (M9 : Nat → Int), (zMs M9 (zSw s w)) ∧ v9 = some (.int (iI 1)) ∧ w9 = [((B 0), .inr (5, [.ref ((B 1)), .ref ((B 2)), .int (iI ((q0 : Int))), .ref ((B 3)), .int (iI ((q1 : Int))), .ref ((B 4)), .ref ((B 5)), .int (iI ((q2 : Int))), .int (iI ((q3 : Int))), .int (iI ((q4 : Int))), .ref ((B 6)), .ref ((B 7)), .int (iI ((q5 : Int))), .int (iI ((q6 : Int))), .ref ((B 8)), .ref ((B 9)), .ref ((B 10)), .ref ((B 11)), .ref ((B 12)), .int (iI ((q7 : Int)))])), cI G (B 1) 1547 M9]) := by
  refine Kt.of (cc := cX5_putWord) (nL := 7) (ret := (some .boolean)) (own := RX5) rfl (by decide +kernel) rfl (Nat.le_of_ble_eq_true rfl) ?_
  intro X Y C R0 hin
  show Z l X G Y 7 0 0 0 [(0, .ref ((B 0))), (1, .int (iI ((w : Int))))] [] [((B 0), .inr (5, [.ref ((B 1)), .ref ((B 2)), .int (iI ((q0 : Int))), .ref ((B 3)), .int (iI ((q1 : Int))), .ref ((B 4)), .ref ((B 5)), .int (iI ((q2 : Int))), .int (iI ((q3 : Int))), .int (iI ((q4 : Int))), .ref ((B 6)), .ref ((B 7)), .int (iI ((q5 : Int))), .int (iI ((q6 : Int))), .ref ((B 8)), .ref ((B 9)), .ref ((B 10)), .ref ((B 11)), .ref ((B 12)), .int (iI ((q7 : Int)))])), cI G (B 1) 1547 M]
  obtain ⟨m0, m1, m2, m3, m4, m5, m6, he, hk⟩ := zMs_r hs hM
  have htk := ztk_b (S := s.2.2.1) (by omega) (by omega)
  have hbn := zbn_b (S := s.2.2.1) (by omega)
  have hzb := zbits_b s.2.2.1 hw
  have hpe := zps_tk s.2.2.2.1 (S := s.2.2.1) (by omega) (by omega)
  refine z_aload_n (pc := 0) C dX5_putWord_0 0 rfl ?_
  refine z_get (pc := 1) C dX5_putWord_1 zCl5 ffX5_putWord_7 0 rfl rfl ?_
  refine z_iconst (pc := 4) C dX5_putWord_4 ?_
  refine z_iald (pc := 5) C dX5_putWord_5 1 rfl (5) (rfl) (by omega) (by decide) ?_
  refine z_topi (y := ((s.2.2.2.1 : Nat) : Int)) (m5) ?_
  refine z_istore_n (lv' := [(2, .int (iI (((s.2.2.2.1 : Nat) : Int)))), (0, .ref ((B 0))), (1, .int (iI ((w : Int))))]) (pc := 6) C dX5_putWord_6 (by decide) rfl ?_
  refine z_aload_n (pc := 7) C dX5_putWord_7 1 rfl ?_
  refine z_callV (As := []) (rest := []) (wc := [((B 0), .inr (5, [.ref ((B 1)), .ref ((B 2)), .int (iI ((q0 : Int))), .ref ((B 3)), .int (iI ((q1 : Int))), .ref ((B 4)), .ref ((B 5)), .int (iI ((q2 : Int))), .int (iI ((q3 : Int))), .int (iI ((q4 : Int))), .ref ((B 6)), .ref ((B 7)), .int (iI ((q5 : Int))), .int (iI ((q6 : Int))), .ref ((B 8)), .ref ((B 9)), .ref ((B 10)), .ref ((B 11)), .ref ((B 12)), .int (iI ((q7 : Int)))])), cI G (B 1) 1547 M]) (wr := []) (fs := [.ref ((B 1)), .ref ((B 2)), .int (iI ((q0 : Int))), .ref ((B 3)), .int (iI ((q1 : Int))), .ref ((B 4)), .ref ((B 5)), .int (iI ((q2 : Int))), .int (iI ((q3 : Int))), .int (iI ((q4 : Int))), .ref ((B 6)), .ref ((B 7)), .int (iI ((q5 : Int))), .int (iI ((q6 : Int))), .ref ((B 8)), .ref ((B 9)), .ref ((B 10)), .ref ((B 11)), .ref ((B 12)), .int (iI ((q7 : Int)))]) (pc := 8) C dX5_putWord_8 (k_X5_bitMany l G B q0 q1 q2 q3 q4 q5 q6 q7 M s hs hM) gX5_putWord_X5_bitMany ⟨⟨_, rfl⟩, ⟨rfl, rfl⟩, nyX5_bitMany, ⟨Nat.le_of_ble_eq_true rfl, Nat.le_of_ble_eq_true rfl⟩⟩ rfl zCl5 rfl (fun h => h) rfl (Nat.le_of_ble_eq_true rfl) [0, 1] [] rfl rfl (by decide) (by decide) (by decide) ⟨Nat.le_of_ble_eq_true rfl, Nat.le_of_ble_eq_true rfl⟩ (fun v w hk => ?_)
  obtain ⟨rfl, rfl⟩ := hk
  refine z_fix (pc2 := 11) (st2 := [.int (iI ((zbn s.2.2.1)))]) (ws' := [((B 0), .inr (5, [.ref ((B 1)), .ref ((B 2)), .int (iI ((q0 : Int))), .ref ((B 3)), .int (iI ((q1 : Int))), .ref ((B 4)), .ref ((B 5)), .int (iI ((q2 : Int))), .int (iI ((q3 : Int))), .int (iI ((q4 : Int))), .ref ((B 6)), .ref ((B 7)), .int (iI ((q5 : Int))), .int (iI ((q6 : Int))), .ref ((B 8)), .ref ((B 9)), .ref ((B 10)), .ref ((B 11)), .ref ((B 12)), .int (iI ((q7 : Int)))])), cI G (B 1) 1547 M]) [0, 1] rfl rfl rfl (by decide) ?_
  refine z_istore_n (lv' := [(3, .int (iI ((zbn s.2.2.1)))), (2, .int (iI (((s.2.2.2.1 : Nat) : Int)))), (0, .ref ((B 0))), (1, .int (iI ((w : Int))))]) (pc := 11) C dX5_putWord_11 (by decide) rfl ?_
  refine z_iload_n (pc := 12) C dX5_putWord_12 1 rfl ?_
  refine z_aload_n (pc := 13) C dX5_putWord_13 2 rfl ?_
  refine z_iload_n (pc := 14) C dX5_putWord_14 0 rfl ?_
  refine z_callV (As := [.int (iI ((zbn s.2.2.1)))]) (rest := [.int (iI (((s.2.2.2.1 : Nat) : Int)))]) (wc := [((B 0), .inr (5, [.ref ((B 1)), .ref ((B 2)), .int (iI ((q0 : Int))), .ref ((B 3)), .int (iI ((q1 : Int))), .ref ((B 4)), .ref ((B 5)), .int (iI ((q2 : Int))), .int (iI ((q3 : Int))), .int (iI ((q4 : Int))), .ref ((B 6)), .ref ((B 7)), .int (iI ((q5 : Int))), .int (iI ((q6 : Int))), .ref ((B 8)), .ref ((B 9)), .ref ((B 10)), .ref ((B 11)), .ref ((B 12)), .int (iI ((q7 : Int)))])), cI G (B 1) 1547 M]) (wr := []) (fs := [.ref ((B 1)), .ref ((B 2)), .int (iI ((q0 : Int))), .ref ((B 3)), .int (iI ((q1 : Int))), .ref ((B 4)), .ref ((B 5)), .int (iI ((q2 : Int))), .int (iI ((q3 : Int))), .int (iI ((q4 : Int))), .ref ((B 6)), .ref ((B 7)), .int (iI ((q5 : Int))), .int (iI ((q6 : Int))), .ref ((B 8)), .ref ((B 9)), .ref ((B 10)), .ref ((B 11)), .ref ((B 12)), .int (iI ((q7 : Int)))]) (pc := 15) C dX5_putWord_15 (k_X5_lengthOf l G B q0 q1 q2 q3 q4 q5 q6 q7 M (zbn s.2.2.1) (s.2.2.1 0) m0.2.2 (by omega) ⟨by omega, by omega⟩) gX5_putWord_X5_lengthOf ⟨⟨_, rfl⟩, ⟨rfl, rfl⟩, nyX5_lengthOf, ⟨Nat.le_of_ble_eq_true rfl, Nat.le_of_ble_eq_true rfl⟩⟩ rfl zCl5 rfl (fun h => h) rfl (Nat.le_of_ble_eq_true rfl) [0, 1] [] rfl rfl (by decide) (by decide) (by decide) ⟨Nat.le_of_ble_eq_true rfl, Nat.le_of_ble_eq_true rfl⟩ (fun v w hk => ?_)
  obtain ⟨rfl, rfl⟩ := hk
  refine z_fix (pc2 := 18) (st2 := [.int (iI (((zbn s.2.2.1) * (s.2.2.1 0) / 16))), .int (iI (((s.2.2.2.1 : Nat) : Int)))]) (ws' := [((B 0), .inr (5, [.ref ((B 1)), .ref ((B 2)), .int (iI ((q0 : Int))), .ref ((B 3)), .int (iI ((q1 : Int))), .ref ((B 4)), .ref ((B 5)), .int (iI ((q2 : Int))), .int (iI ((q3 : Int))), .int (iI ((q4 : Int))), .ref ((B 6)), .ref ((B 7)), .int (iI ((q5 : Int))), .int (iI ((q6 : Int))), .ref ((B 8)), .ref ((B 9)), .ref ((B 10)), .ref ((B 11)), .ref ((B 12)), .int (iI ((q7 : Int)))])), cI G (B 1) 1547 M]) [0, 1] rfl rfl rfl (by decide) ?_
  refine z_topi (y := (ztk s.2.2.1)) (rfl) ?_
  refine z_iadd (pc := 18) C dX5_putWord_18 ?_
  refine z_sipush (pc := 19) C dX5_putWord_19 (by decide +kernel) ?_
  refine z_icmp_le (tgt := 27) (pc := 22) C dX5_putWord_22 (by decide) ⟨by omega, by omega⟩ (by decide) (fun c22 => ?_) (fun c22 => ?_)
  · refine z_aload_n (pc := 27) C dX5_putWord_27 2 rfl ?_
    refine z_iload_n (pc := 28) C dX5_putWord_28 3 rfl ?_
    refine z_callV (As := [.int (iI ((w : Int)))]) (rest := []) (wc := [((B 0), .inr (5, [.ref ((B 1)), .ref ((B 2)), .int (iI ((q0 : Int))), .ref ((B 3)), .int (iI ((q1 : Int))), .ref ((B 4)), .ref ((B 5)), .int (iI ((q2 : Int))), .int (iI ((q3 : Int))), .int (iI ((q4 : Int))), .ref ((B 6)), .ref ((B 7)), .int (iI ((q5 : Int))), .int (iI ((q6 : Int))), .ref ((B 8)), .ref ((B 9)), .ref ((B 10)), .ref ((B 11)), .ref ((B 12)), .int (iI ((q7 : Int)))])), cI G (B 1) 1547 M]) (wr := []) (fs := [.ref ((B 1)), .ref ((B 2)), .int (iI ((q0 : Int))), .ref ((B 3)), .int (iI ((q1 : Int))), .ref ((B 4)), .ref ((B 5)), .int (iI ((q2 : Int))), .int (iI ((q3 : Int))), .int (iI ((q4 : Int))), .ref ((B 6)), .ref ((B 7)), .int (iI ((q5 : Int))), .int (iI ((q6 : Int))), .ref ((B 8)), .ref ((B 9)), .ref ((B 10)), .ref ((B 11)), .ref ((B 12)), .int (iI ((q7 : Int)))]) (pc := 29) C dX5_putWord_29 (k_X5_bitsOf l G B q0 q1 q2 q3 q4 q5 q6 q7 M w s hs hM hw) gX5_putWord_X5_bitsOf ⟨⟨_, rfl⟩, ⟨rfl, rfl⟩, nyX5_bitsOf, ⟨Nat.le_of_ble_eq_true rfl, Nat.le_of_ble_eq_true rfl⟩⟩ rfl zCl5 rfl (fun h => h) rfl (Nat.le_of_ble_eq_true rfl) [0, 1] [] rfl rfl (by decide) (by decide) (by decide) ⟨Nat.le_of_ble_eq_true rfl, Nat.le_of_ble_eq_true rfl⟩ (fun v w hk => ?_)
    obtain ⟨rfl, rfl⟩ := hk
    refine z_fix (pc2 := 32) (st2 := [.int (iI ((zbits s.2.2.1 w)))]) (ws' := [((B 0), .inr (5, [.ref ((B 1)), .ref ((B 2)), .int (iI ((q0 : Int))), .ref ((B 3)), .int (iI ((q1 : Int))), .ref ((B 4)), .ref ((B 5)), .int (iI ((q2 : Int))), .int (iI ((q3 : Int))), .int (iI ((q4 : Int))), .ref ((B 6)), .ref ((B 7)), .int (iI ((q5 : Int))), .int (iI ((q6 : Int))), .ref ((B 8)), .ref ((B 9)), .ref ((B 10)), .ref ((B 11)), .ref ((B 12)), .int (iI ((q7 : Int)))])), cI G (B 1) 1547 M]) [0, 1] rfl rfl rfl (by decide) ?_
    refine z_istore (lv' := [(4, .int (iI ((zbits s.2.2.1 w)))), (3, .int (iI ((zbn s.2.2.1)))), (2, .int (iI (((s.2.2.2.1 : Nat) : Int)))), (0, .ref ((B 0))), (1, .int (iI ((w : Int))))]) (pc := 32) C dX5_putWord_32 (by decide) rfl ?_
    refine z_iconst (pc := 34) C dX5_putWord_34 ?_
    refine z_istore (lv' := [(5, .int (iI 0)), (4, .int (iI ((zbits s.2.2.1 w)))), (3, .int (iI ((zbn s.2.2.1)))), (2, .int (iI (((s.2.2.2.1 : Nat) : Int)))), (0, .ref ((B 0))), (1, .int (iI ((w : Int))))]) (pc := 35) C dX5_putWord_35 (by decide) rfl ?_
    have L37 : ∀ (n : Nat) (i : Nat) (M1 : Nat → Int), (zbn s.2.2.1).toNat < i + n → i ≤ (zbn s.2.2.1).toNat → (∀ j, j < 47 → M1 j = M j) → (∀ t, t < zps s.2.2.1 s.2.2.2.1 i → M1 (47 + t) = zB (zaw s.1 s.2.2.1 s.2.2.2.1 w (zbn s.2.2.1).toNat t)) → Z l X G Y 7 0 0 37 [(0, .ref ((B 0))), (1, .int (iI ((w : Int)))), (2, .int (iI (((s.2.2.2.1 : Nat) : Int)))), (3, .int (iI ((((zbn s.2.2.1).toNat : Nat) : Int)))), (4, .int (iI ((zbits s.2.2.1 w)))), (5, .int (iI ((i : Int))))] [] [((B 0), .inr (5, [.ref ((B 1)), .ref ((B 2)), .int (iI ((q0 : Int))), .ref ((B 3)), .int (iI ((q1 : Int))), .ref ((B 4)), .ref ((B 5)), .int (iI ((q2 : Int))), .int (iI ((q3 : Int))), .int (iI ((q4 : Int))), .ref ((B 6)), .ref ((B 7)), .int (iI ((q5 : Int))), .int (iI ((q6 : Int))), .ref ((B 8)), .ref ((B 9)), .ref ((B 10)), .ref ((B 11)), .ref ((B 12)), .int (iI ((q7 : Int)))])), cI G (B 1) 1547 M1] := by
      intro n
      induction n with
      | zero => intro i M1 hn hi hA hL; exact absurd hn (by omega)
      | succ n ih =>
        intro i M1 hn hi hA hL
        refine z_iload (pc := 37) C dX5_putWord_37 5 rfl ?_
        refine z_iload_n (pc := 39) C dX5_putWord_39 3 rfl ?_
        refine z_icmp_ge (tgt := 97) (pc := 40) C dX5_putWord_40 (by decide) ⟨by omega, by omega⟩ ⟨by omega, by omega⟩ (fun c40 => ?_) (fun c40 => ?_)
        · obtain rfl : i = (zbn s.2.2.1).toNat := by omega
          refine z_aload_n (pc := 97) C dX5_putWord_97 0 rfl ?_
          have hA6 := hA 6 (by decide)
          refine z_get (pc := 98) C dX5_putWord_98 zCl5 ffX5_putWord_7 0 rfl rfl ?_
          refine z_iconst (pc := 101) C dX5_putWord_101 ?_
          refine z_iload_n (pc := 102) C dX5_putWord_102 2 rfl ?_
          refine z_aload_n (pc := 103) C dX5_putWord_103 0 rfl ?_
          refine z_iload_n (pc := 104) C dX5_putWord_104 3 rfl ?_
          refine z_callV (As := [.int (iI ((((zbn s.2.2.1).toNat : Nat) : Int)))]) (rest := [.int (iI (((s.2.2.2.1 : Nat) : Int))), .int (iI 5), .ref ((B 1))]) (wc := [((B 0), .inr (5, [.ref ((B 1)), .ref ((B 2)), .int (iI ((q0 : Int))), .ref ((B 3)), .int (iI ((q1 : Int))), .ref ((B 4)), .ref ((B 5)), .int (iI ((q2 : Int))), .int (iI ((q3 : Int))), .int (iI ((q4 : Int))), .ref ((B 6)), .ref ((B 7)), .int (iI ((q5 : Int))), .int (iI ((q6 : Int))), .ref ((B 8)), .ref ((B 9)), .ref ((B 10)), .ref ((B 11)), .ref ((B 12)), .int (iI ((q7 : Int)))])), cI G (B 1) 1547 M1]) (wr := []) (fs := [.ref ((B 1)), .ref ((B 2)), .int (iI ((q0 : Int))), .ref ((B 3)), .int (iI ((q1 : Int))), .ref ((B 4)), .ref ((B 5)), .int (iI ((q2 : Int))), .int (iI ((q3 : Int))), .int (iI ((q4 : Int))), .ref ((B 6)), .ref ((B 7)), .int (iI ((q5 : Int))), .int (iI ((q6 : Int))), .ref ((B 8)), .ref ((B 9)), .ref ((B 10)), .ref ((B 11)), .ref ((B 12)), .int (iI ((q7 : Int)))]) (pc := 105) C dX5_putWord_105 (k_X5_lengthOf l G B q0 q1 q2 q3 q4 q5 q6 q7 M1 (((zbn s.2.2.1).toNat : Nat) : Int) (s.2.2.1 0) ((hA 0 (by decide)).trans m0.2.2) (by omega) ⟨by omega, by omega⟩) gX5_putWord_X5_lengthOf ⟨⟨_, rfl⟩, ⟨rfl, rfl⟩, nyX5_lengthOf, ⟨Nat.le_of_ble_eq_true rfl, Nat.le_of_ble_eq_true rfl⟩⟩ rfl zCl5 rfl (fun h => h) rfl (Nat.le_of_ble_eq_true rfl) [0, 1] [] rfl rfl (by decide) (by decide) (by decide) ⟨Nat.le_of_ble_eq_true rfl, Nat.le_of_ble_eq_true rfl⟩ (fun v w hk => ?_)
          obtain ⟨rfl, rfl⟩ := hk
          refine z_fix (pc2 := 108) (st2 := [.int (iI (((((zbn s.2.2.1).toNat : Nat) : Int) * (s.2.2.1 0) / 16))), .int (iI (((s.2.2.2.1 : Nat) : Int))), .int (iI 5), .ref ((B 1))]) (ws' := [((B 0), .inr (5, [.ref ((B 1)), .ref ((B 2)), .int (iI ((q0 : Int))), .ref ((B 3)), .int (iI ((q1 : Int))), .ref ((B 4)), .ref ((B 5)), .int (iI ((q2 : Int))), .int (iI ((q3 : Int))), .int (iI ((q4 : Int))), .ref ((B 6)), .ref ((B 7)), .int (iI ((q5 : Int))), .int (iI ((q6 : Int))), .ref ((B 8)), .ref ((B 9)), .ref ((B 10)), .ref ((B 11)), .ref ((B 12)), .int (iI ((q7 : Int)))])), cI G (B 1) 1547 M1]) [0, 1] rfl rfl rfl (by decide) ?_
          refine z_iadd (pc := 108) C dX5_putWord_108 ?_
          refine z_iast (ws' := [((B 0), .inr (5, [.ref ((B 1)), .ref ((B 2)), .int (iI ((q0 : Int))), .ref ((B 3)), .int (iI ((q1 : Int))), .ref ((B 4)), .ref ((B 5)), .int (iI ((q2 : Int))), .int (iI ((q3 : Int))), .int (iI ((q4 : Int))), .ref ((B 6)), .ref ((B 7)), .int (iI ((q5 : Int))), .int (iI ((q6 : Int))), .ref ((B 8)), .ref ((B 9)), .ref ((B 10)), .ref ((B 11)), .ref ((B 12)), .int (iI ((q7 : Int)))])), cI G (B 1) 1547 (zU M1 5 (((s.2.2.2.1 : Nat) : Int) + ((((zbn s.2.2.1).toNat : Nat) : Int) * (s.2.2.1 0) / 16)))]) (pc := 109) C dX5_putWord_109 1 rfl (5) (rfl) (by omega) (by decide) rfl ?_
          refine z_aload_n (pc := 110) C dX5_putWord_110 0 rfl ?_
          refine z_get (pc := 111) C dX5_putWord_111 zCl5 ffX5_putWord_7 0 rfl rfl ?_
          refine z_bipush (pc := 114) C dX5_putWord_114 (by decide +kernel) ?_
          refine z_aload_n (pc := 116) C dX5_putWord_116 0 rfl ?_
          refine z_get (pc := 117) C dX5_putWord_117 zCl5 ffX5_putWord_7 0 rfl rfl ?_
          refine z_bipush (pc := 120) C dX5_putWord_120 (by decide +kernel) ?_
          refine z_iald (pc := 122) C dX5_putWord_122 1 rfl (6) (rfl) (by omega) (by decide) ?_
          have hA7 : zU M1 5 ((s.2.2.2.1 : Int) + (((zbn s.2.2.1).toNat : Nat) : Int) * s.2.2.1 0 / 16) 6 = (s.2.2.2.2 : Int) := (zU_n (by decide)).trans (hA6.trans m6)
          refine z_topi (y := ((s.2.2.2.2 : Nat) : Int)) (hA7) ?_
          refine z_iadd (pc := 123) C dX5_putWord_123 ?_
          refine z_iload_n (pc := 124) C dX5_putWord_124 1 rfl ?_
          refine z_iast (ws' := [((B 0), .inr (5, [.ref ((B 1)), .ref ((B 2)), .int (iI ((q0 : Int))), .ref ((B 3)), .int (iI ((q1 : Int))), .ref ((B 4)), .ref ((B 5)), .int (iI ((q2 : Int))), .int (iI ((q3 : Int))), .int (iI ((q4 : Int))), .ref ((B 6)), .ref ((B 7)), .int (iI ((q5 : Int))), .int (iI ((q6 : Int))), .ref ((B 8)), .ref ((B 9)), .ref ((B 10)), .ref ((B 11)), .ref ((B 12)), .int (iI ((q7 : Int)))])), cI G (B 1) 1547 (zU (zU M1 5 (((s.2.2.2.1 : Nat) : Int) + ((((zbn s.2.2.1).toNat : Nat) : Int) * (s.2.2.1 0) / 16))) (7 + s.2.2.2.2) (w : Int))]) (pc := 125) C dX5_putWord_125 1 rfl ((7 + s.2.2.2.2)) (by omega) (by omega) (by decide) rfl ?_
          refine z_aload_n (pc := 126) C dX5_putWord_126 0 rfl ?_
          refine z_get (pc := 127) C dX5_putWord_127 zCl5 ffX5_putWord_7 0 rfl rfl ?_
          refine z_bipush (pc := 130) C dX5_putWord_130 (by decide +kernel) ?_
          refine z_dup2 (pc := 132) C dX5_putWord_132 rfl rfl ?_
          refine z_iald (pc := 133) C dX5_putWord_133 1 rfl (6) (rfl) (by omega) (by decide) ?_
          refine z_iconst (pc := 134) C dX5_putWord_134 ?_
          refine z_iadd (pc := 135) C dX5_putWord_135 ?_
          refine z_iast (ws' := [((B 0), .inr (5, [.ref ((B 1)), .ref ((B 2)), .int (iI ((q0 : Int))), .ref ((B 3)), .int (iI ((q1 : Int))), .ref ((B 4)), .ref ((B 5)), .int (iI ((q2 : Int))), .int (iI ((q3 : Int))), .int (iI ((q4 : Int))), .ref ((B 6)), .ref ((B 7)), .int (iI ((q5 : Int))), .int (iI ((q6 : Int))), .ref ((B 8)), .ref ((B 9)), .ref ((B 10)), .ref ((B 11)), .ref ((B 12)), .int (iI ((q7 : Int)))])), cI G (B 1) 1547 (zU (zU (zU M1 5 (((s.2.2.2.1 : Nat) : Int) + ((((zbn s.2.2.1).toNat : Nat) : Int) * (s.2.2.1 0) / 16))) (7 + s.2.2.2.2) (w : Int)) 6 (((zU (zU M1 5 (((s.2.2.2.1 : Nat) : Int) + ((((zbn s.2.2.1).toNat : Nat) : Int) * (s.2.2.1 0) / 16))) (7 + s.2.2.2.2) (w : Int)) 6) + 1))]) (pc := 136) C dX5_putWord_136 1 rfl (6) (rfl) (by omega) (by decide) rfl ?_
          refine z_iconst (pc := 137) C dX5_putWord_137 ?_
          exact z_zret (pc := 138) C R0 (by decide) dX5_putWord_138 (⟨_, zMs_word hs hM hr hA hL (by rw [show (((zbn s.2.2.1).toNat : Nat) : Int) = zbn s.2.2.1 by omega]; show (s.2.2.2.1 : Int) + ztk s.2.2.1 = _; omega) (by rw [zU_n (by omega)]; omega), rfl, rfl⟩)
        · have J91 : ∀ (M2 : Nat → Int), (∀ j, j < 47 → M2 j = M j) → (∀ t, t < zps s.2.2.1 s.2.2.2.1 (i + 1) → M2 (47 + t) = zB (zaw s.1 s.2.2.1 s.2.2.2.1 w (zbn s.2.2.1).toNat t)) → Z l X G Y 7 0 0 91 [(0, .ref ((B 0))), (1, .int (iI ((w : Int)))), (2, .int (iI (((s.2.2.2.1 : Nat) : Int)))), (3, .int (iI ((((zbn s.2.2.1).toNat : Nat) : Int)))), (4, .int (iI ((zbits s.2.2.1 w)))), (5, .int (iI ((i : Int))))] [] [((B 0), .inr (5, [.ref ((B 1)), .ref ((B 2)), .int (iI ((q0 : Int))), .ref ((B 3)), .int (iI ((q1 : Int))), .ref ((B 4)), .ref ((B 5)), .int (iI ((q2 : Int))), .int (iI ((q3 : Int))), .int (iI ((q4 : Int))), .ref ((B 6)), .ref ((B 7)), .int (iI ((q5 : Int))), .int (iI ((q6 : Int))), .ref ((B 8)), .ref ((B 9)), .ref ((B 10)), .ref ((B 11)), .ref ((B 12)), .int (iI ((q7 : Int)))])), cI G (B 1) 1547 M2] := by
            intro M2 hA2 hL2
            refine z_iinc (lv' := [(5, .int (iI (((i : Int) + 1)))), (0, .ref ((B 0))), (1, .int (iI ((w : Int)))), (2, .int (iI (((s.2.2.2.1 : Nat) : Int)))), (3, .int (iI ((((zbn s.2.2.1).toNat : Nat) : Int)))), (4, .int (iI ((zbits s.2.2.1 w))))]) (pc := 91) C dX5_putWord_91 5 rfl (by decide) rfl ?_
            refine z_goto (tgt := 37) (pc := 94) C dX5_putWord_94 (by decide) ?_
            refine z_lv (lv' := [(0, .ref ((B 0))), (1, .int (iI ((w : Int)))), (2, .int (iI (((s.2.2.2.1 : Nat) : Int)))), (3, .int (iI ((((zbn s.2.2.1).toNat : Nat) : Int)))), (4, .int (iI ((zbits s.2.2.1 w)))), (5, .int (iI (((i : Int) + 1))))]) [1, 2, 3, 4, 5, 0] rfl ?_
            exact ih (i + 1) M2 (by omega) (by omega) hA2 hL2
          refine z_iload_n (pc := 43) C dX5_putWord_43 2 rfl ?_
          refine z_aload_n (pc := 44) C dX5_putWord_44 0 rfl ?_
          refine z_iload (pc := 45) C dX5_putWord_45 5 rfl ?_
          refine z_callV (As := [.int (iI ((i : Int)))]) (rest := [.int (iI (((s.2.2.2.1 : Nat) : Int)))]) (wc := [((B 0), .inr (5, [.ref ((B 1)), .ref ((B 2)), .int (iI ((q0 : Int))), .ref ((B 3)), .int (iI ((q1 : Int))), .ref ((B 4)), .ref ((B 5)), .int (iI ((q2 : Int))), .int (iI ((q3 : Int))), .int (iI ((q4 : Int))), .ref ((B 6)), .ref ((B 7)), .int (iI ((q5 : Int))), .int (iI ((q6 : Int))), .ref ((B 8)), .ref ((B 9)), .ref ((B 10)), .ref ((B 11)), .ref ((B 12)), .int (iI ((q7 : Int)))])), cI G (B 1) 1547 M1]) (wr := []) (fs := [.ref ((B 1)), .ref ((B 2)), .int (iI ((q0 : Int))), .ref ((B 3)), .int (iI ((q1 : Int))), .ref ((B 4)), .ref ((B 5)), .int (iI ((q2 : Int))), .int (iI ((q3 : Int))), .int (iI ((q4 : Int))), .ref ((B 6)), .ref ((B 7)), .int (iI ((q5 : Int))), .int (iI ((q6 : Int))), .ref ((B 8)), .ref ((B 9)), .ref ((B 10)), .ref ((B 11)), .ref ((B 12)), .int (iI ((q7 : Int)))]) (pc := 47) C dX5_putWord_47 (k_X5_lengthOf l G B q0 q1 q2 q3 q4 q5 q6 q7 M1 (i : Int) (s.2.2.1 0) ((hA 0 (by decide)).trans m0.2.2) (by omega) ⟨by omega, by omega⟩) gX5_putWord_X5_lengthOf ⟨⟨_, rfl⟩, ⟨rfl, rfl⟩, nyX5_lengthOf, ⟨Nat.le_of_ble_eq_true rfl, Nat.le_of_ble_eq_true rfl⟩⟩ rfl zCl5 rfl (fun h => h) rfl (Nat.le_of_ble_eq_true rfl) [0, 1] [] rfl rfl (by decide) (by decide) (by decide) ⟨Nat.le_of_ble_eq_true rfl, Nat.le_of_ble_eq_true rfl⟩ (fun v w hk => ?_)
          obtain ⟨rfl, rfl⟩ := hk
          refine z_fix (pc2 := 50) (st2 := [.int (iI (((i : Int) * (s.2.2.1 0) / 16))), .int (iI (((s.2.2.2.1 : Nat) : Int)))]) (ws' := [((B 0), .inr (5, [.ref ((B 1)), .ref ((B 2)), .int (iI ((q0 : Int))), .ref ((B 3)), .int (iI ((q1 : Int))), .ref ((B 4)), .ref ((B 5)), .int (iI ((q2 : Int))), .int (iI ((q3 : Int))), .int (iI ((q4 : Int))), .ref ((B 6)), .ref ((B 7)), .int (iI ((q5 : Int))), .int (iI ((q6 : Int))), .ref ((B 8)), .ref ((B 9)), .ref ((B 10)), .ref ((B 11)), .ref ((B 12)), .int (iI ((q7 : Int)))])), cI G (B 1) 1547 M1]) [0, 1] rfl rfl rfl (by decide) ?_
          have hm1 := zmul_b (a := ((i : Nat) : Int)) (m := 12) (s := s.2.2.1 0) (by omega) (by omega) (by omega)
          have hm3 := zmul_b (a := ((i + 1 : Nat) : Int)) (m := 12) (s := s.2.2.1 0) (by omega) (by omega) (by omega)
          have hq1 := zps_int (S := s.2.2.1) s.2.2.2.1 i (by omega)
          have hq2 := zps_int (S := s.2.2.1) s.2.2.2.1 (i + 1) (by omega)
          have hq3 : zps s.2.2.1 s.2.2.2.1 i ≤ zps s.2.2.1 s.2.2.2.1 (i + 1) := zps_mono s.2.2.1 s.2.2.2.1 (Nat.le_succ i)
          have hq4 := zps_mono s.2.2.1 s.2.2.2.1 (show i + 1 ≤ (zbn s.2.2.1).toNat by omega)
          have hq0 : s.2.2.2.1 ≤ zps s.2.2.1 s.2.2.2.1 i := Nat.le_add_right _ _
          refine z_iadd (pc := 50) C dX5_putWord_50 ?_
          refine z_topi (y := (((zps s.2.2.1 s.2.2.2.1 i) : Nat) : Int)) (by omega) ?_
          refine z_istore (lv' := [(6, .int (iI ((((zps s.2.2.1 s.2.2.2.1 i) : Nat) : Int)))), (0, .ref ((B 0))), (1, .int (iI ((w : Int)))), (2, .int (iI (((s.2.2.2.1 : Nat) : Int)))), (3, .int (iI ((((zbn s.2.2.1).toNat : Nat) : Int)))), (4, .int (iI ((zbits s.2.2.1 w)))), (5, .int (iI ((i : Int))))]) (pc := 51) C dX5_putWord_51 (by decide) rfl ?_
          have L53 : ∀ (m : Nat) (x : Nat) (M2 : Nat → Int), 1501 < x + m → zps s.2.2.1 s.2.2.2.1 i ≤ x → x ≤ zps s.2.2.1 s.2.2.2.1 (i + 1) → (∀ j, j < 47 → M2 j = M j) → (∀ t, t < x → M2 (47 + t) = zB (zaw s.1 s.2.2.1 s.2.2.2.1 w (zbn s.2.2.1).toNat t)) → Z l X G Y 7 0 0 53 [(0, .ref ((B 0))), (1, .int (iI ((w : Int)))), (2, .int (iI (((s.2.2.2.1 : Nat) : Int)))), (3, .int (iI ((((zbn s.2.2.1).toNat : Nat) : Int)))), (4, .int (iI ((zbits s.2.2.1 w)))), (5, .int (iI ((i : Int)))), (6, .int (iI ((x : Int))))] [] [((B 0), .inr (5, [.ref ((B 1)), .ref ((B 2)), .int (iI ((q0 : Int))), .ref ((B 3)), .int (iI ((q1 : Int))), .ref ((B 4)), .ref ((B 5)), .int (iI ((q2 : Int))), .int (iI ((q3 : Int))), .int (iI ((q4 : Int))), .ref ((B 6)), .ref ((B 7)), .int (iI ((q5 : Int))), .int (iI ((q6 : Int))), .ref ((B 8)), .ref ((B 9)), .ref ((B 10)), .ref ((B 11)), .ref ((B 12)), .int (iI ((q7 : Int)))])), cI G (B 1) 1547 M2] := by
            intro m
            induction m with
            | zero => intro x M2 hn hx hx2 hA2 hL2; exact absurd hn (by omega)
            | succ m ih =>
              intro x M2 hn hx hx2 hA2 hL2
              refine z_iload (pc := 53) C dX5_putWord_53 6 rfl ?_
              refine z_iload_n (pc := 55) C dX5_putWord_55 2 rfl ?_
              refine z_aload_n (pc := 56) C dX5_putWord_56 0 rfl ?_
              refine z_iload (pc := 57) C dX5_putWord_57 5 rfl ?_
              refine z_iconst (pc := 59) C dX5_putWord_59 ?_
              refine z_iadd (pc := 60) C dX5_putWord_60 ?_
              refine z_callV (As := [.int (iI (((i : Int) + 1)))]) (rest := [.int (iI (((s.2.2.2.1 : Nat) : Int))), .int (iI ((x : Int)))]) (wc := [((B 0), .inr (5, [.ref ((B 1)), .ref ((B 2)), .int (iI ((q0 : Int))), .ref ((B 3)), .int (iI ((q1 : Int))), .ref ((B 4)), .ref ((B 5)), .int (iI ((q2 : Int))), .int (iI ((q3 : Int))), .int (iI ((q4 : Int))), .ref ((B 6)), .ref ((B 7)), .int (iI ((q5 : Int))), .int (iI ((q6 : Int))), .ref ((B 8)), .ref ((B 9)), .ref ((B 10)), .ref ((B 11)), .ref ((B 12)), .int (iI ((q7 : Int)))])), cI G (B 1) 1547 M2]) (wr := []) (fs := [.ref ((B 1)), .ref ((B 2)), .int (iI ((q0 : Int))), .ref ((B 3)), .int (iI ((q1 : Int))), .ref ((B 4)), .ref ((B 5)), .int (iI ((q2 : Int))), .int (iI ((q3 : Int))), .int (iI ((q4 : Int))), .ref ((B 6)), .ref ((B 7)), .int (iI ((q5 : Int))), .int (iI ((q6 : Int))), .ref ((B 8)), .ref ((B 9)), .ref ((B 10)), .ref ((B 11)), .ref ((B 12)), .int (iI ((q7 : Int)))]) (pc := 61) C dX5_putWord_61 (k_X5_lengthOf l G B q0 q1 q2 q3 q4 q5 q6 q7 M2 ((i + 1 : Nat) : Int) (s.2.2.1 0) ((hA2 0 (by decide)).trans m0.2.2) (by omega) ⟨by omega, by omega⟩) gX5_putWord_X5_lengthOf ⟨⟨_, rfl⟩, ⟨rfl, rfl⟩, nyX5_lengthOf, ⟨Nat.le_of_ble_eq_true rfl, Nat.le_of_ble_eq_true rfl⟩⟩ rfl zCl5 rfl (fun h => h) rfl (Nat.le_of_ble_eq_true rfl) [0, 1] [] rfl rfl (by decide) (by decide) (by decide) ⟨Nat.le_of_ble_eq_true rfl, Nat.le_of_ble_eq_true rfl⟩ (fun v w hk => ?_)
              obtain ⟨rfl, rfl⟩ := hk
              refine z_fix (pc2 := 64) (st2 := [.int (iI ((((i + 1 : Nat) : Int) * (s.2.2.1 0) / 16))), .int (iI (((s.2.2.2.1 : Nat) : Int))), .int (iI ((x : Int)))]) (ws' := [((B 0), .inr (5, [.ref ((B 1)), .ref ((B 2)), .int (iI ((q0 : Int))), .ref ((B 3)), .int (iI ((q1 : Int))), .ref ((B 4)), .ref ((B 5)), .int (iI ((q2 : Int))), .int (iI ((q3 : Int))), .int (iI ((q4 : Int))), .ref ((B 6)), .ref ((B 7)), .int (iI ((q5 : Int))), .int (iI ((q6 : Int))), .ref ((B 8)), .ref ((B 9)), .ref ((B 10)), .ref ((B 11)), .ref ((B 12)), .int (iI ((q7 : Int)))])), cI G (B 1) 1547 M2]) [0, 1] rfl rfl rfl (by decide) ?_
              refine z_iadd (pc := 64) C dX5_putWord_64 ?_
              refine z_topi (y := (((zps s.2.2.1 s.2.2.2.1 (i + 1)) : Nat) : Int)) (by omega) ?_
              refine z_icmp_ge (tgt := 91) (pc := 65) C dX5_putWord_65 (by decide) ⟨by omega, by omega⟩ ⟨by omega, by omega⟩ (fun c65 => ?_) (fun c65 => ?_)
              · refine z_lv (lv' := [(0, .ref ((B 0))), (1, .int (iI ((w : Int)))), (2, .int (iI (((s.2.2.2.1 : Nat) : Int)))), (3, .int (iI ((((zbn s.2.2.1).toNat : Nat) : Int)))), (4, .int (iI ((zbits s.2.2.1 w)))), (5, .int (iI ((i : Int))))]) [0, 1, 2, 3, 4, 5] rfl ?_
                exact J91 M2 hA2 (fun t ht => hL2 t (by omega))
              · refine z_aload_n (pc := 68) C dX5_putWord_68 0 rfl ?_
                refine z_get (pc := 69) C dX5_putWord_69 zCl5 ffX5_putWord_7 0 rfl rfl ?_
                refine z_bipush (pc := 72) C dX5_putWord_72 (by decide +kernel) ?_
                refine z_iload (pc := 74) C dX5_putWord_74 6 rfl ?_
                refine z_iadd (pc := 76) C dX5_putWord_76 ?_
                refine z_iload (pc := 77) C dX5_putWord_77 4 rfl ?_
                refine z_iload (pc := 79) C dX5_putWord_79 5 rfl ?_
                refine z_ishr (pc := 81) C dX5_putWord_81 ⟨by omega, by omega⟩ ⟨by omega, by omega⟩ ?_
                refine z_iconst (pc := 82) C dX5_putWord_82 ?_
                refine z_iand (pc := 83) C dX5_putWord_83 ⟨Int.ediv_nonneg (by omega) (Int.le_of_lt (Int.pow_pos (by decide))), Int.le_trans (Int.ediv_le_self _ (by omega)) (by omega)⟩ (by decide) ?_
                refine z_topi (y := (zbits s.2.2.1 w / 2 ^ i % 2)) (by rw [zand1 (Int.ediv_nonneg (by omega) (Int.le_of_lt (Int.pow_pos (by decide)))), Int.toNat_natCast]) ?_
                refine z_iast (ws' := [((B 0), .inr (5, [.ref ((B 1)), .ref ((B 2)), .int (iI ((q0 : Int))), .ref ((B 3)), .int (iI ((q1 : Int))), .ref ((B 4)), .ref ((B 5)), .int (iI ((q2 : Int))), .int (iI ((q3 : Int))), .int (iI ((q4 : Int))), .ref ((B 6)), .ref ((B 7)), .int (iI ((q5 : Int))), .int (iI ((q6 : Int))), .ref ((B 8)), .ref ((B 9)), .ref ((B 10)), .ref ((B 11)), .ref ((B 12)), .int (iI ((q7 : Int)))])), cI G (B 1) 1547 (zU M2 (47 + x) (zbits s.2.2.1 w / 2 ^ i % 2))]) (pc := 84) C dX5_putWord_84 1 rfl ((47 + x)) (by omega) (by omega) (by decide) rfl ?_
                refine z_iinc (lv' := [(6, .int (iI (((x : Int) + 1)))), (0, .ref ((B 0))), (1, .int (iI ((w : Int)))), (2, .int (iI (((s.2.2.2.1 : Nat) : Int)))), (3, .int (iI ((((zbn s.2.2.1).toNat : Nat) : Int)))), (4, .int (iI ((zbits s.2.2.1 w)))), (5, .int (iI ((i : Int))))]) (pc := 85) C dX5_putWord_85 6 rfl (by decide) rfl ?_
                refine z_goto (tgt := 53) (pc := 88) C dX5_putWord_88 (by decide) ?_
                refine z_lv (lv' := [(0, .ref ((B 0))), (1, .int (iI ((w : Int)))), (2, .int (iI (((s.2.2.2.1 : Nat) : Int)))), (3, .int (iI ((((zbn s.2.2.1).toNat : Nat) : Int)))), (4, .int (iI ((zbits s.2.2.1 w)))), (5, .int (iI ((i : Int)))), (6, .int (iI (((x : Int) + 1))))]) [1, 2, 3, 4, 5, 6, 0] rfl ?_
                exact ih (x + 1) _ (by omega) (by omega) (by omega) (fun j hj => (zU_n (by omega)).trans (hA2 j hj)) (fun t ht => by
                  by_cases htx : t = x
                  · subst htx
                    rw [zU_s, zbt_v]
                    have hin := zaw_in (b := s.1) (S := s.2.2.1) (e := s.2.2.2.1) (w := w) (i := i) (t := t) (by omega) (by omega) (hs.2.2.1 t (by omega)) ((zbn s.2.2.1).toNat - (i + 1))
                    rw [show i + 1 + ((zbn s.2.2.1).toNat - (i + 1)) = (zbn s.2.2.1).toNat by omega] at hin
                    rw [hin]
                  · rw [zU_n (by omega)]
                    exact hL2 t (by omega))
          refine z_lv (lv' := [(0, .ref ((B 0))), (1, .int (iI ((w : Int)))), (2, .int (iI (((s.2.2.2.1 : Nat) : Int)))), (3, .int (iI ((((zbn s.2.2.1).toNat : Nat) : Int)))), (4, .int (iI ((zbits s.2.2.1 w)))), (5, .int (iI ((i : Int)))), (6, .int (iI ((((zps s.2.2.1 s.2.2.2.1 i) : Nat) : Int))))]) [1, 2, 3, 4, 5, 6, 0] rfl ?_
          exact L53 1502 (zps s.2.2.1 s.2.2.2.1 i) M1 (by omega) (Nat.le_refl _) hq3 hA hL
    refine z_lv (lv' := [(0, .ref ((B 0))), (1, .int (iI ((w : Int)))), (2, .int (iI (((s.2.2.2.1 : Nat) : Int)))), (3, .int (iI ((zbn s.2.2.1)))), (4, .int (iI ((zbits s.2.2.1 w)))), (5, .int (iI 0))]) [4, 5, 3, 2, 1, 0] rfl ?_
    refine z_eq rfl (lv2 := [(0, .ref ((B 0))), (1, .int (iI ((w : Int)))), (2, .int (iI (((s.2.2.2.1 : Nat) : Int)))), (3, .int (iI ((((zbn s.2.2.1).toNat : Nat) : Int)))), (4, .int (iI ((zbits s.2.2.1 w)))), (5, .int (iI ((0 : Int))))]) (by rw [show (((zbn s.2.2.1).toNat : Nat) : Int) = zbn s.2.2.1 by omega]; first | done | rfl) rfl rfl ?_
    exact L37 ((zbn s.2.2.1).toNat + 1) 0 M (by omega) (by omega) (fun j _ => rfl) (fun t ht => by
      have ht2 : t < s.2.2.2.1 := by unfold zps at ht; omega
      rw [zaw_out _ (Or.inl ht2)]
      exact hM.2.2.2.2 t ht2)
  · exfalso; omega

theorem ffX5_putLevel_7 : zFF wsX5_putLevel RX5 7 RX5 TX5 20 0 := ⟨by decide +kernel, by decide, by decide +kernel⟩
set_option maxHeartbeats 4000000 in
set_option maxRecDepth 100000 in
theorem k_X5_putLevel_f (l : Launch) (G : ZG) (B : Nat → Nat) (q0 q1 q2 q3 q4 q5 q6 q7 : Nat) (M : Nat → Int) (v : Int) (m : Nat) (s : ZS) (hs : zIs s) (hM : zMs M s) (hm : m ≤ 100000) (hr : 1500 - (s.2.2.2.1 : Int) < m) : Kt l G yX5_putLevel wsX5_putLevel { frames := 0, cells := 0, slots := 0, locals := 0 } 0 0 False [.ref ((B 0)), .int (iI v), .int (iI ((m : Int)))] [((B 0), .inr (5, [.ref ((B 1)), .ref ((B 2)), .int (iI ((q0 : Int))), .ref ((B 3)), .int (iI ((q1 : Int))), .ref ((B 4)), .ref ((B 5)), .int (iI ((q2 : Int))), .int (iI ((q3 : Int))), .int (iI ((q4 : Int))), .ref ((B 6)), .ref ((B 7)), .int (iI ((q5 : Int))), .int (iI ((q6 : Int))), .ref ((B 8)), .ref ((B 9)), .ref ((B 10)), .ref ((B 11)), .ref ((B 12)), .int (iI ((q7 : Int)))])), cI G (B 1) 1547 M] (fun v9 w9 => v9 = some (.int (iI 0)) ∧ w9 = [((B 0), .inr (5, [.ref ((B 1)), .ref ((B 2)), .int (iI ((q0 : Int))), .ref ((B 3)), .int (iI ((q1 : Int))), .ref ((B 4)), .ref ((B 5)), .int (iI ((q2 : Int))), .int (iI ((q3 : Int))), .int (iI ((q4 : Int))), .ref ((B 6)), .ref ((B 7)), .int (iI ((q5 : Int))), .int (iI ((q6 : Int))), .ref ((B 8)), .ref ((B 9)), .ref ((B 10)), .ref ((B 11)), .ref ((B 12)), .int (iI ((q7 : Int)))])), cI G (B 1) 1547 M]) := by
  refine Kt.of (cc := cX5_putLevel) (nL := 4) (ret := (some .boolean)) (own := RX5) rfl (by decide +kernel) rfl (Nat.le_of_ble_eq_true rfl) ?_
  intro X Y C R0 hin
  show Z l X G Y 4 0 0 0 [(0, .ref ((B 0))), (1, .int (iI v)), (2, .int (iI ((m : Int))))] [] [((B 0), .inr (5, [.ref ((B 1)), .ref ((B 2)), .int (iI ((q0 : Int))), .ref ((B 3)), .int (iI ((q1 : Int))), .ref ((B 4)), .ref ((B 5)), .int (iI ((q2 : Int))), .int (iI ((q3 : Int))), .int (iI ((q4 : Int))), .ref ((B 6)), .ref ((B 7)), .int (iI ((q5 : Int))), .int (iI ((q6 : Int))), .ref ((B 8)), .ref ((B 9)), .ref ((B 10)), .ref ((B 11)), .ref ((B 12)), .int (iI ((q7 : Int)))])), cI G (B 1) 1547 M]
  obtain ⟨m0, m1, m2, m3, m4, m5, m6, he, hk⟩ := zMs_r hs hM
  refine z_aload_n (pc := 0) C dX5_putLevel_0 0 rfl ?_
  refine z_get (pc := 1) C dX5_putLevel_1 zCl5 ffX5_putLevel_7 0 rfl rfl ?_
  refine z_iconst (pc := 4) C dX5_putLevel_4 ?_
  refine z_iald (pc := 5) C dX5_putLevel_5 1 rfl (5) (rfl) (by omega) (by decide) ?_
  refine z_iload_n (pc := 6) C dX5_putLevel_6 2 rfl ?_
  refine z_iadd (pc := 7) C dX5_putLevel_7 ?_
  refine z_sipush (pc := 8) C dX5_putLevel_8 (by decide +kernel) ?_
  refine z_icmp_le (tgt := 16) (pc := 11) C dX5_putLevel_11 (by decide) ⟨by omega, by omega⟩ (by decide) (fun c11 => ?_) (fun c11 => ?_)
  · exfalso; omega
  · refine z_iconst (pc := 14) C dX5_putLevel_14 ?_
    exact z_zret (pc := 15) C R0 (by decide) dX5_putLevel_15 (⟨rfl, rfl⟩)

set_option maxHeartbeats 4000000 in
set_option maxRecDepth 100000 in
theorem k_X5_putLevel_t (l : Launch) (G : ZG) (B : Nat → Nat) (q0 q1 q2 q3 q4 q5 q6 q7 : Nat) (M : Nat → Int) (v : Int) (m : Nat) (s : ZS) (hs : zIs s) (hM : zMs M s) (hv : v = 0 ∨ v = 1) (hr : (m : Int) ≤ 1500 - (s.2.2.2.1 : Int)) : Kt l G yX5_putLevel wsX5_putLevel { frames := 0, cells := 0, slots := 0, locals := 0 } 0 0 False [.ref ((B 0)), .int (iI v), .int (iI ((m : Int)))] [((B 0), .inr (5, [.ref ((B 1)), .ref ((B 2)), .int (iI ((q0 : Int))), .ref ((B 3)), .int (iI ((q1 : Int))), .ref ((B 4)), .ref ((B 5)), .int (iI ((q2 : Int))), .int (iI ((q3 : Int))), .int (iI ((q4 : Int))), .ref ((B 6)), .ref ((B 7)), .int (iI ((q5 : Int))), .int (iI ((q6 : Int))), .ref ((B 8)), .ref ((B 9)), .ref ((B 10)), .ref ((B 11)), .ref ((B 12)), .int (iI ((q7 : Int)))])), cI G (B 1) 1547 M] (fun v9 w9 => ∃ (M9 : Nat → Int), (zMs M9 (zSs s v m)) ∧ v9 = some (.int (iI 1)) ∧ w9 = [((B 0), .inr (5, [.ref ((B 1)), .ref ((B 2)), .int (iI ((q0 : Int))), .ref ((B 3)), .int (iI ((q1 : Int))), .ref ((B 4)), .ref ((B 5)), .int (iI ((q2 : Int))), .int (iI ((q3 : Int))), .int (iI ((q4 : Int))), .ref ((B 6)), .ref ((B 7)), .int (iI ((q5 : Int))), .int (iI ((q6 : Int))), .ref ((B 8)), .ref ((B 9)), .ref ((B 10)), .ref ((B 11)), .ref ((B 12)), .int (iI ((q7 : Int)))])), cI G (B 1) 1547 M9]) := by
  refine Kt.of (cc := cX5_putLevel) (nL := 4) (ret := (some .boolean)) (own := RX5) rfl (by decide +kernel) rfl (Nat.le_of_ble_eq_true rfl) ?_
  intro X Y C R0 hin
  show Z l X G Y 4 0 0 0 [(0, .ref ((B 0))), (1, .int (iI v)), (2, .int (iI ((m : Int))))] [] [((B 0), .inr (5, [.ref ((B 1)), .ref ((B 2)), .int (iI ((q0 : Int))), .ref ((B 3)), .int (iI ((q1 : Int))), .ref ((B 4)), .ref ((B 5)), .int (iI ((q2 : Int))), .int (iI ((q3 : Int))), .int (iI ((q4 : Int))), .ref ((B 6)), .ref ((B 7)), .int (iI ((q5 : Int))), .int (iI ((q6 : Int))), .ref ((B 8)), .ref ((B 9)), .ref ((B 10)), .ref ((B 11)), .ref ((B 12)), .int (iI ((q7 : Int)))])), cI G (B 1) 1547 M]
  obtain ⟨m0, m1, m2, m3, m4, m5, m6, he, hk⟩ := zMs_r hs hM
  refine z_aload_n (pc := 0) C dX5_putLevel_0 0 rfl ?_
  refine z_get (pc := 1) C dX5_putLevel_1 zCl5 ffX5_putLevel_7 0 rfl rfl ?_
  refine z_iconst (pc := 4) C dX5_putLevel_4 ?_
  refine z_iald (pc := 5) C dX5_putLevel_5 1 rfl (5) (rfl) (by omega) (by decide) ?_
  refine z_iload_n (pc := 6) C dX5_putLevel_6 2 rfl ?_
  refine z_iadd (pc := 7) C dX5_putLevel_7 ?_
  refine z_sipush (pc := 8) C dX5_putLevel_8 (by decide +kernel) ?_
  refine z_icmp_le (tgt := 16) (pc := 11) C dX5_putLevel_11 (by decide) ⟨by omega, by omega⟩ (by decide) (fun c11 => ?_) (fun c11 => ?_)
  · refine z_iconst (pc := 16) C dX5_putLevel_16 ?_
    refine z_istore_n (lv' := [(3, .int (iI 0)), (0, .ref ((B 0))), (1, .int (iI v)), (2, .int (iI ((m : Int))))]) (pc := 17) C dX5_putLevel_17 (by decide) rfl ?_
    have L18 : ∀ (n : Nat) (i : Nat) (M1 : Nat → Int), m < i + n → i ≤ m → (∀ j, j < 47 + s.2.2.2.1 → M1 j = M j) → (∀ t, s.2.2.2.1 ≤ t → t < s.2.2.2.1 + i → M1 (47 + t) = v) → Z l X G Y 4 0 0 18 [(0, .ref ((B 0))), (1, .int (iI v)), (2, .int (iI ((m : Int)))), (3, .int (iI ((i : Int))))] [] [((B 0), .inr (5, [.ref ((B 1)), .ref ((B 2)), .int (iI ((q0 : Int))), .ref ((B 3)), .int (iI ((q1 : Int))), .ref ((B 4)), .ref ((B 5)), .int (iI ((q2 : Int))), .int (iI ((q3 : Int))), .int (iI ((q4 : Int))), .ref ((B 6)), .ref ((B 7)), .int (iI ((q5 : Int))), .int (iI ((q6 : Int))), .ref ((B 8)), .ref ((B 9)), .ref ((B 10)), .ref ((B 11)), .ref ((B 12)), .int (iI ((q7 : Int)))])), cI G (B 1) 1547 M1] := by
      intro n
      induction n with
      | zero => intro i M1 hn hi hA hL; exact absurd hn (by omega)
      | succ n ih =>
        intro i M1 hn hi hA hL
        refine z_iload_n (pc := 18) C dX5_putLevel_18 3 rfl ?_
        refine z_iload_n (pc := 19) C dX5_putLevel_19 2 rfl ?_
        have hA5 := (hA 5 (by omega)).trans m5
        refine z_icmp_ge (tgt := 46) (pc := 20) C dX5_putLevel_20 (by decide) ⟨by omega, by omega⟩ ⟨by omega, by omega⟩ (fun c20 => ?_) (fun c20 => ?_)
        · obtain rfl : i = m := by omega
          refine z_aload_n (pc := 46) C dX5_putLevel_46 0 rfl ?_
          refine z_get (pc := 47) C dX5_putLevel_47 zCl5 ffX5_putLevel_7 0 rfl rfl ?_
          refine z_iconst (pc := 50) C dX5_putLevel_50 ?_
          refine z_dup2 (pc := 51) C dX5_putLevel_51 rfl rfl ?_
          refine z_iald (pc := 52) C dX5_putLevel_52 1 rfl (5) (rfl) (by omega) (by decide) ?_
          refine z_iload_n (pc := 53) C dX5_putLevel_53 2 rfl ?_
          refine z_iadd (pc := 54) C dX5_putLevel_54 ?_
          refine z_iast (ws' := [((B 0), .inr (5, [.ref ((B 1)), .ref ((B 2)), .int (iI ((q0 : Int))), .ref ((B 3)), .int (iI ((q1 : Int))), .ref ((B 4)), .ref ((B 5)), .int (iI ((q2 : Int))), .int (iI ((q3 : Int))), .int (iI ((q4 : Int))), .ref ((B 6)), .ref ((B 7)), .int (iI ((q5 : Int))), .int (iI ((q6 : Int))), .ref ((B 8)), .ref ((B 9)), .ref ((B 10)), .ref ((B 11)), .ref ((B 12)), .int (iI ((q7 : Int)))])), cI G (B 1) 1547 (zU M1 5 ((M1 5) + (i : Int)))]) (pc := 55) C dX5_putLevel_55 1 rfl (5) (rfl) (by omega) (by decide) rfl ?_
          refine z_iconst (pc := 56) C dX5_putLevel_56 ?_
          exact z_zret (pc := 57) C R0 (by decide) dX5_putLevel_57 (⟨_, zMs_str hs hM hv hA hL (by omega), rfl, rfl⟩)
        · refine z_aload_n (pc := 23) C dX5_putLevel_23 0 rfl ?_
          refine z_get (pc := 24) C dX5_putLevel_24 zCl5 ffX5_putLevel_7 0 rfl rfl ?_
          refine z_bipush (pc := 27) C dX5_putLevel_27 (by decide +kernel) ?_
          refine z_aload_n (pc := 29) C dX5_putLevel_29 0 rfl ?_
          refine z_get (pc := 30) C dX5_putLevel_30 zCl5 ffX5_putLevel_7 0 rfl rfl ?_
          refine z_iconst (pc := 33) C dX5_putLevel_33 ?_
          refine z_iald (pc := 34) C dX5_putLevel_34 1 rfl (5) (rfl) (by omega) (by decide) ?_
          refine z_iadd (pc := 35) C dX5_putLevel_35 ?_
          refine z_iload_n (pc := 36) C dX5_putLevel_36 3 rfl ?_
          refine z_iadd (pc := 37) C dX5_putLevel_37 ?_
          refine z_iload_n (pc := 38) C dX5_putLevel_38 1 rfl ?_
          refine z_iast (ws' := [((B 0), .inr (5, [.ref ((B 1)), .ref ((B 2)), .int (iI ((q0 : Int))), .ref ((B 3)), .int (iI ((q1 : Int))), .ref ((B 4)), .ref ((B 5)), .int (iI ((q2 : Int))), .int (iI ((q3 : Int))), .int (iI ((q4 : Int))), .ref ((B 6)), .ref ((B 7)), .int (iI ((q5 : Int))), .int (iI ((q6 : Int))), .ref ((B 8)), .ref ((B 9)), .ref ((B 10)), .ref ((B 11)), .ref ((B 12)), .int (iI ((q7 : Int)))])), cI G (B 1) 1547 (zU M1 (47 + s.2.2.2.1 + i) v)]) (pc := 39) C dX5_putLevel_39 1 rfl ((47 + s.2.2.2.1 + i)) (by omega) (by omega) (by decide) rfl ?_
          refine z_iinc (lv' := [(3, .int (iI (((i : Int) + 1)))), (0, .ref ((B 0))), (1, .int (iI v)), (2, .int (iI ((m : Int))))]) (pc := 40) C dX5_putLevel_40 3 rfl (by decide) rfl ?_
          refine z_goto (tgt := 18) (pc := 43) C dX5_putLevel_43 (by decide) ?_
          refine z_lv (lv' := [(0, .ref ((B 0))), (1, .int (iI v)), (2, .int (iI ((m : Int)))), (3, .int (iI (((i : Int) + 1))))]) [1, 2, 3, 0] rfl ?_
          exact ih (i + 1) _ (by omega) (by omega) (fun j hj => (zU_n (by omega)).trans (hA j hj)) (fun t h1 h2 => by
            by_cases htx : t = s.2.2.2.1 + i
            · subst htx
              rw [show 47 + (s.2.2.2.1 + i) = 47 + s.2.2.2.1 + i by omega]
              exact zU_s
            · rw [zU_n (by omega)]
              exact hL t h1 (by omega))
    refine z_lv (lv' := [(0, .ref ((B 0))), (1, .int (iI v)), (2, .int (iI ((m : Int)))), (3, .int (iI 0))]) [1, 2, 3, 0] rfl ?_
    exact L18 (m + 1) 0 M (by omega) (by omega) (fun j _ => rfl) (fun t h1 h2 => absurd h2 (by omega))
  · exfalso; omega

theorem ffX5_flip_7 : zFF wsX5_flip RX5 7 RX5 TX5 20 0 := ⟨by decide +kernel, by decide, by decide +kernel⟩
set_option maxHeartbeats 4000000 in
set_option maxRecDepth 100000 in
theorem k_X5_flip (l : Launch) (G : ZG) (B : Nat → Nat) (q0 q1 q2 q3 q4 q5 q6 q7 : Nat) (M : Nat → Int) (f : Nat) (m : Nat) (s : ZS) (hs : zIs s) (hM : zMs M s) (hf : f + m ≤ s.2.2.2.1) : Kt l G yX5_flip wsX5_flip { frames := 0, cells := 0, slots := 0, locals := 0 } 0 0 False [.ref ((B 0)), .int (iI ((f : Int))), .int (iI ((m : Int)))] [((B 0), .inr (5, [.ref ((B 1)), .ref ((B 2)), .int (iI ((q0 : Int))), .ref ((B 3)), .int (iI ((q1 : Int))), .ref ((B 4)), .ref ((B 5)), .int (iI ((q2 : Int))), .int (iI ((q3 : Int))), .int (iI ((q4 : Int))), .ref ((B 6)), .ref ((B 7)), .int (iI ((q5 : Int))), .int (iI ((q6 : Int))), .ref ((B 8)), .ref ((B 9)), .ref ((B 10)), .ref ((B 11)), .ref ((B 12)), .int (iI ((q7 : Int)))])), cI G (B 1) 1547 M] (fun v9 w9 => ∃ (M9 : Nat → Int), (zMs M9 (zSf s f m)) ∧ v9 = none ∧ w9 = [((B 0), .inr (5, [.ref ((B 1)), .ref ((B 2)), .int (iI ((q0 : Int))), .ref ((B 3)), .int (iI ((q1 : Int))), .ref ((B 4)), .ref ((B 5)), .int (iI ((q2 : Int))), .int (iI ((q3 : Int))), .int (iI ((q4 : Int))), .ref ((B 6)), .ref ((B 7)), .int (iI ((q5 : Int))), .int (iI ((q6 : Int))), .ref ((B 8)), .ref ((B 9)), .ref ((B 10)), .ref ((B 11)), .ref ((B 12)), .int (iI ((q7 : Int)))])), cI G (B 1) 1547 M9]) := by
  refine Kt.of (cc := cX5_flip) (nL := 4) (ret := none) (own := RX5) rfl (by decide +kernel) rfl (Nat.le_of_ble_eq_true rfl) ?_
  intro X Y C R0 hin
  show Z l X G Y 4 0 0 0 [(0, .ref ((B 0))), (1, .int (iI ((f : Int)))), (2, .int (iI ((m : Int))))] [] [((B 0), .inr (5, [.ref ((B 1)), .ref ((B 2)), .int (iI ((q0 : Int))), .ref ((B 3)), .int (iI ((q1 : Int))), .ref ((B 4)), .ref ((B 5)), .int (iI ((q2 : Int))), .int (iI ((q3 : Int))), .int (iI ((q4 : Int))), .ref ((B 6)), .ref ((B 7)), .int (iI ((q5 : Int))), .int (iI ((q6 : Int))), .ref ((B 8)), .ref ((B 9)), .ref ((B 10)), .ref ((B 11)), .ref ((B 12)), .int (iI ((q7 : Int)))])), cI G (B 1) 1547 M]
  obtain ⟨m0, m1, m2, m3, m4, m5, m6, he, hk⟩ := zMs_r hs hM
  refine z_iconst (pc := 0) C dX5_flip_0 ?_
  refine z_istore_n (lv' := [(3, .int (iI 0)), (0, .ref ((B 0))), (1, .int (iI ((f : Int)))), (2, .int (iI ((m : Int))))]) (pc := 1) C dX5_flip_1 (by decide) rfl ?_
  have L2 : ∀ (n : Nat) (i : Nat) (M1 : Nat → Int), m < i + n → i ≤ m → zMs M1 (zSf s f i) → Z l X G Y 4 0 0 2 [(0, .ref ((B 0))), (1, .int (iI ((f : Int)))), (2, .int (iI ((m : Int)))), (3, .int (iI ((i : Int))))] [] [((B 0), .inr (5, [.ref ((B 1)), .ref ((B 2)), .int (iI ((q0 : Int))), .ref ((B 3)), .int (iI ((q1 : Int))), .ref ((B 4)), .ref ((B 5)), .int (iI ((q2 : Int))), .int (iI ((q3 : Int))), .int (iI ((q4 : Int))), .ref ((B 6)), .ref ((B 7)), .int (iI ((q5 : Int))), .int (iI ((q6 : Int))), .ref ((B 8)), .ref ((B 9)), .ref ((B 10)), .ref ((B 11)), .ref ((B 12)), .int (iI ((q7 : Int)))])), cI G (B 1) 1547 M1] := by
    intro n
    induction n with
    | zero => intro i M1 hn hi hA; exact absurd hn (by omega)
    | succ n ih =>
      intro i M1 hn hi hA
      refine z_iload_n (pc := 2) C dX5_flip_2 3 rfl ?_
      refine z_iload_n (pc := 3) C dX5_flip_3 2 rfl ?_
      refine z_icmp_ge (tgt := 37) (pc := 4) C dX5_flip_4 (by decide) ⟨by omega, by omega⟩ ⟨by omega, by omega⟩ (fun c4 => ?_) (fun c4 => ?_)
      · obtain rfl : i = m := by omega
        exact z_vret (pc := 37) C R0 dX5_flip_37 (⟨_, hA, rfl, rfl⟩)
      · refine z_aload_n (pc := 7) C dX5_flip_7 0 rfl ?_
        refine z_get (pc := 8) C dX5_flip_8 zCl5 ffX5_flip_7 0 rfl rfl ?_
        refine z_bipush (pc := 11) C dX5_flip_11 (by decide +kernel) ?_
        refine z_iload_n (pc := 13) C dX5_flip_13 1 rfl ?_
        refine z_iadd (pc := 14) C dX5_flip_14 ?_
        refine z_iload_n (pc := 15) C dX5_flip_15 3 rfl ?_
        refine z_iadd (pc := 16) C dX5_flip_16 ?_
        refine z_iconst (pc := 17) C dX5_flip_17 ?_
        refine z_aload_n (pc := 18) C dX5_flip_18 0 rfl ?_
        refine z_get (pc := 19) C dX5_flip_19 zCl5 ffX5_flip_7 0 rfl rfl ?_
        refine z_bipush (pc := 22) C dX5_flip_22 (by decide +kernel) ?_
        refine z_iload_n (pc := 24) C dX5_flip_24 1 rfl ?_
        refine z_iadd (pc := 25) C dX5_flip_25 ?_
        refine z_iload_n (pc := 26) C dX5_flip_26 3 rfl ?_
        refine z_iadd (pc := 27) C dX5_flip_27 ?_
        refine z_iald (pc := 28) C dX5_flip_28 1 rfl ((47 + (f + i))) (by omega) (by omega) (by decide) ?_
        refine z_isub (pc := 29) C dX5_flip_29 ?_
        refine z_iast (ws' := [((B 0), .inr (5, [.ref ((B 1)), .ref ((B 2)), .int (iI ((q0 : Int))), .ref ((B 3)), .int (iI ((q1 : Int))), .ref ((B 4)), .ref ((B 5)), .int (iI ((q2 : Int))), .int (iI ((q3 : Int))), .int (iI ((q4 : Int))), .ref ((B 6)), .ref ((B 7)), .int (iI ((q5 : Int))), .int (iI ((q6 : Int))), .ref ((B 8)), .ref ((B 9)), .ref ((B 10)), .ref ((B 11)), .ref ((B 12)), .int (iI ((q7 : Int)))])), cI G (B 1) 1547 (zU M1 (47 + (f + i)) (1 - (M1 (47 + (f + i)))))]) (pc := 30) C dX5_flip_30 1 rfl ((47 + (f + i))) (by omega) (by omega) (by decide) rfl ?_
        refine z_iinc (lv' := [(3, .int (iI (((i : Int) + 1)))), (0, .ref ((B 0))), (1, .int (iI ((f : Int)))), (2, .int (iI ((m : Int))))]) (pc := 31) C dX5_flip_31 3 rfl (by decide) rfl ?_
        refine z_goto (tgt := 2) (pc := 34) C dX5_flip_34 (by decide) ?_
        refine z_lv (lv' := [(0, .ref ((B 0))), (1, .int (iI ((f : Int)))), (2, .int (iI ((m : Int)))), (3, .int (iI (((i : Int) + 1))))]) [1, 2, 3, 0] rfl ?_
        exact ih (i + 1) _ (by omega) (by omega) (zMs_flips hA (by omega) hs)
  refine z_lv (lv' := [(0, .ref ((B 0))), (1, .int (iI ((f : Int)))), (2, .int (iI ((m : Int)))), (3, .int (iI 0))]) [1, 2, 3, 0] rfl ?_
  exact L2 (m + 1) 0 M (by omega) (by omega) (by rw [show zSf s f 0 = s from congrArg (fun x => (x, s.2)) (zfl_0 s.1 f)]; exact hM)

theorem ffX5_fallOf_7 : zFF wsX5_fallOf RX5 7 RX5 TX5 20 0 := ⟨by decide +kernel, by decide, by decide +kernel⟩
theorem nyX5_isFall : yX5_isFall.cls ≠ "java/lang/invoke/MethodHandle" ∧ yX5_isFall.cls ≠ "java/lang/invoke/VarHandle" ∧ (parseMethodDescriptor yX5_isFall.desc).map (fun d => d.parameters.length) = some 1 := by decide +kernel
set_option maxHeartbeats 4000000 in
set_option maxRecDepth 100000 in
theorem k_X5_fallOf (l : Launch) (G : ZG) (B : Nat → Nat) (q0 q1 q2 q3 q4 q5 q6 q7 : Nat) (M : Nat → Int) (r : Nat) (s : ZS) (hs : zIs s) (hM : zMs M s) (hr : r ≤ 2147483647) : Kt l G yX5_fallOf wsX5_fallOf { frames := 2, cells := 0, slots := 0, locals := 42 } 0 0 False [.ref ((B 0)), .int (iI ((r : Int)))] [((B 0), .inr (5, [.ref ((B 1)), .ref ((B 2)), .int (iI ((q0 : Int))), .ref ((B 3)), .int (iI ((q1 : Int))), .ref ((B 4)), .ref ((B 5)), .int (iI ((q2 : Int))), .int (iI ((q3 : Int))), .int (iI ((q4 : Int))), .ref ((B 6)), .ref ((B 7)), .int (iI ((q5 : Int))), .int (iI ((q6 : Int))), .ref ((B 8)), .ref ((B 9)), .ref ((B 10)), .ref ((B 11)), .ref ((B 12)), .int (iI ((q7 : Int)))])), cI G (B 1) 1547 M] (fun v9 w9 => v9 = some (.int (iI ((zfr s.1 s.2.2.2.1 r)))) ∧ w9 = [((B 0), .inr (5, [.ref ((B 1)), .ref ((B 2)), .int (iI ((q0 : Int))), .ref ((B 3)), .int (iI ((q1 : Int))), .ref ((B 4)), .ref ((B 5)), .int (iI ((q2 : Int))), .int (iI ((q3 : Int))), .int (iI ((q4 : Int))), .ref ((B 6)), .ref ((B 7)), .int (iI ((q5 : Int))), .int (iI ((q6 : Int))), .ref ((B 8)), .ref ((B 9)), .ref ((B 10)), .ref ((B 11)), .ref ((B 12)), .int (iI ((q7 : Int)))])), cI G (B 1) 1547 M]) := by
  refine Kt.of (cc := cX5_fallOf) (nL := 4) (ret := (some .int)) (own := RX5) rfl (by decide +kernel) rfl (Nat.le_of_ble_eq_true rfl) ?_
  intro X Y C R0 hin
  show Z l X G Y 4 0 0 0 [(0, .ref ((B 0))), (1, .int (iI ((r : Int))))] [] [((B 0), .inr (5, [.ref ((B 1)), .ref ((B 2)), .int (iI ((q0 : Int))), .ref ((B 3)), .int (iI ((q1 : Int))), .ref ((B 4)), .ref ((B 5)), .int (iI ((q2 : Int))), .int (iI ((q3 : Int))), .int (iI ((q4 : Int))), .ref ((B 6)), .ref ((B 7)), .int (iI ((q5 : Int))), .int (iI ((q6 : Int))), .ref ((B 8)), .ref ((B 9)), .ref ((B 10)), .ref ((B 11)), .ref ((B 12)), .int (iI ((q7 : Int)))])), cI G (B 1) 1547 M]
  obtain ⟨m0, m1, m2, m3, m4, m5, m6, he, hk⟩ := zMs_r hs hM
  refine z_iload_n (pc := 0) C dX5_fallOf_0 1 rfl ?_
  refine z_istore_n (lv' := [(2, .int (iI ((r : Int)))), (0, .ref ((B 0))), (1, .int (iI ((r : Int))))]) (pc := 1) C dX5_fallOf_1 (by decide) rfl ?_
  refine z_iconst (pc := 2) C dX5_fallOf_2 ?_
  refine z_istore_n (lv' := [(3, .int (iI 0)), (2, .int (iI ((r : Int)))), (0, .ref ((B 0))), (1, .int (iI ((r : Int))))]) (pc := 3) C dX5_fallOf_3 (by decide) rfl ?_
  have L4 : ∀ (n : Nat) (t a : Nat) (z : Int), s.2.2.2.1 < t + n → t ≤ s.2.2.2.1 → a ≤ r → z = (r : Int) - (a : Int) → znf s.1 s.2.2.2.1 t = zfs s.1 s.2.2.2.1 a → Z l X G Y 4 0 0 4 [(0, .ref ((B 0))), (1, .int (iI ((r : Int)))), (2, .int (iI z)), (3, .int (iI ((t : Int))))] [] [((B 0), .inr (5, [.ref ((B 1)), .ref ((B 2)), .int (iI ((q0 : Int))), .ref ((B 3)), .int (iI ((q1 : Int))), .ref ((B 4)), .ref ((B 5)), .int (iI ((q2 : Int))), .int (iI ((q3 : Int))), .int (iI ((q4 : Int))), .ref ((B 6)), .ref ((B 7)), .int (iI ((q5 : Int))), .int (iI ((q6 : Int))), .ref ((B 8)), .ref ((B 9)), .ref ((B 10)), .ref ((B 11)), .ref ((B 12)), .int (iI ((q7 : Int)))])), cI G (B 1) 1547 M] := by
    intro n
    induction n with
    | zero => intro t a z hn ht ha hz hq; exact absurd hn (by omega)
    | succ n ih =>
      intro t a z hn ht ha hz hq
      refine z_iload_n (pc := 4) C dX5_fallOf_4 3 rfl ?_
      refine z_aload_n (pc := 5) C dX5_fallOf_5 0 rfl ?_
      refine z_get (pc := 6) C dX5_fallOf_6 zCl5 ffX5_fallOf_7 0 rfl rfl ?_
      refine z_iconst (pc := 9) C dX5_fallOf_9 ?_
      refine z_iald (pc := 10) C dX5_fallOf_10 1 rfl (5) (rfl) (by omega) (by decide) ?_
      refine z_icmp_ge (tgt := 37) (pc := 11) C dX5_fallOf_11 (by decide) ⟨by omega, by omega⟩ ⟨by omega, by omega⟩ (fun c11 => ?_) (fun c11 => ?_)
      · refine z_bipush (pc := 37) C dX5_fallOf_37 (by decide +kernel) ?_
        have ht39 : (-5) = (zfr s.1 s.2.2.2.1 r) := by
          have hzz : zfs s.1 s.2.2.2.1 a = s.2.2.2.1 := by rw [← hq, znf_end (by omega)]
          have hze := zfs_end hzz (r - a)
          rw [show a + (r - a) = r by omega] at hze
          unfold zfr
          rw [hze, if_neg (by omega)]
        refine z_topi (y := (zfr s.1 s.2.2.2.1 r)) (ht39) ?_
        exact z_iret (pc := 39) C R0 dX5_fallOf_39 (⟨rfl, rfl⟩)
      · have hlt : t < s.2.2.2.1 := by omega
        refine z_aload_n (pc := 14) C dX5_fallOf_14 0 rfl ?_
        refine z_iload_n (pc := 15) C dX5_fallOf_15 3 rfl ?_
        refine z_callV (As := [.int (iI ((t : Int)))]) (rest := []) (wc := [((B 0), .inr (5, [.ref ((B 1)), .ref ((B 2)), .int (iI ((q0 : Int))), .ref ((B 3)), .int (iI ((q1 : Int))), .ref ((B 4)), .ref ((B 5)), .int (iI ((q2 : Int))), .int (iI ((q3 : Int))), .int (iI ((q4 : Int))), .ref ((B 6)), .ref ((B 7)), .int (iI ((q5 : Int))), .int (iI ((q6 : Int))), .ref ((B 8)), .ref ((B 9)), .ref ((B 10)), .ref ((B 11)), .ref ((B 12)), .int (iI ((q7 : Int)))])), cI G (B 1) 1547 M]) (wr := []) (fs := [.ref ((B 1)), .ref ((B 2)), .int (iI ((q0 : Int))), .ref ((B 3)), .int (iI ((q1 : Int))), .ref ((B 4)), .ref ((B 5)), .int (iI ((q2 : Int))), .int (iI ((q3 : Int))), .int (iI ((q4 : Int))), .ref ((B 6)), .ref ((B 7)), .int (iI ((q5 : Int))), .int (iI ((q6 : Int))), .ref ((B 8)), .ref ((B 9)), .ref ((B 10)), .ref ((B 11)), .ref ((B 12)), .int (iI ((q7 : Int)))]) (pc := 16) C dX5_fallOf_16 (k_X5_isFall l G B q0 q1 q2 q3 q4 q5 q6 q7 M t s hs hM (by omega)) gX5_fallOf_X5_isFall ⟨⟨_, rfl⟩, ⟨rfl, rfl⟩, nyX5_isFall, ⟨Nat.le_of_ble_eq_true rfl, Nat.le_of_ble_eq_true rfl⟩⟩ rfl zCl5 rfl (fun h => h) rfl (Nat.le_of_ble_eq_true rfl) [0, 1] [] rfl rfl (by decide) (by decide) (by decide) ⟨Nat.le_of_ble_eq_true rfl, Nat.le_of_ble_eq_true rfl⟩ (fun v w hk => ?_)
        obtain ⟨rfl, rfl⟩ := hk
        refine z_fix (pc2 := 19) (st2 := [.int (iI ((zB (zfall s.1 t))))]) (ws' := [((B 0), .inr (5, [.ref ((B 1)), .ref ((B 2)), .int (iI ((q0 : Int))), .ref ((B 3)), .int (iI ((q1 : Int))), .ref ((B 4)), .ref ((B 5)), .int (iI ((q2 : Int))), .int (iI ((q3 : Int))), .int (iI ((q4 : Int))), .ref ((B 6)), .ref ((B 7)), .int (iI ((q5 : Int))), .int (iI ((q6 : Int))), .ref ((B 8)), .ref ((B 9)), .ref ((B 10)), .ref ((B 11)), .ref ((B 12)), .int (iI ((q7 : Int)))])), cI G (B 1) 1547 M]) [0, 1] rfl rfl rfl (by decide) ?_
        refine z_if_eq (tgt := 31) (pc := 19) C dX5_fallOf_19 (by decide) ⟨Int.le_trans (by decide) (zB_b _).1, Int.le_trans (zB_b _).2 (by decide)⟩ (fun c19 => ?_) (fun c19 => ?_)
        · refine z_iinc (lv' := [(3, .int (iI (((t : Int) + 1)))), (0, .ref ((B 0))), (1, .int (iI ((r : Int)))), (2, .int (iI z))]) (pc := 31) C dX5_fallOf_31 3 rfl (by decide) rfl ?_
          refine z_goto (tgt := 4) (pc := 34) C dX5_fallOf_34 (by decide) ?_
          refine z_lv (lv' := [(0, .ref ((B 0))), (1, .int (iI ((r : Int)))), (2, .int (iI z)), (3, .int (iI (((t : Int) + 1))))]) [1, 2, 3, 0] rfl ?_
          exact ih (t + 1) a z (by omega) (by omega) ha hz (by rw [← hq, znf_step hlt (by cases hfz : zfall s.1 t; rfl; rw [hfz] at c19; exact absurd c19 (by decide))])
        · have hft : zfall s.1 t = true := by
            cases hfz : zfall s.1 t
            · rw [hfz] at c19
              exact absurd rfl c19
            · rfl
          refine z_iload_n (pc := 22) C dX5_fallOf_22 2 rfl ?_
          refine z_if_ne (tgt := 28) (pc := 23) C dX5_fallOf_23 (by decide) ⟨by omega, by omega⟩ (fun c23 => ?_) (fun c23 => ?_)
          · refine z_iinc (lv' := [(2, .int (iI ((z + (-1))))), (0, .ref ((B 0))), (1, .int (iI ((r : Int)))), (3, .int (iI ((t : Int))))]) (pc := 28) C dX5_fallOf_28 2 rfl (by decide) rfl ?_
            refine z_iinc (lv' := [(3, .int (iI (((t : Int) + 1)))), (2, .int (iI ((z + (-1))))), (0, .ref ((B 0))), (1, .int (iI ((r : Int))))]) (pc := 31) C dX5_fallOf_31 3 rfl (by decide) rfl ?_
            refine z_goto (tgt := 4) (pc := 34) C dX5_fallOf_34 (by decide) ?_
            refine z_lv (lv' := [(0, .ref ((B 0))), (1, .int (iI ((r : Int)))), (2, .int (iI ((z + (-1))))), (3, .int (iI (((t : Int) + 1))))]) [2, 3, 1, 0] rfl ?_
            exact ih (t + 1) (a + 1) (z + (-1)) (by omega) (by omega) (by omega) (by omega) (by show _ = znf s.1 _ (zfs s.1 _ a + 1); rw [← hq, znf_fall hlt hft])
          · refine z_iload_n (pc := 26) C dX5_fallOf_26 3 rfl ?_
            have ht27 : (t : Int) = (zfr s.1 s.2.2.2.1 r) := by
              obtain rfl : a = r := by omega
              have hzz : zfs s.1 s.2.2.2.1 a = t := by rw [← hq, znf_fall hlt hft]
              unfold zfr
              rw [hzz, if_pos hlt]
            refine z_topi (y := (zfr s.1 s.2.2.2.1 r)) (ht27) ?_
            exact z_iret (pc := 27) C R0 dX5_fallOf_27 (⟨rfl, rfl⟩)
  refine z_lv (lv' := [(0, .ref ((B 0))), (1, .int (iI ((r : Int)))), (2, .int (iI ((r : Int)))), (3, .int (iI 0))]) [2, 3, 1, 0] rfl ?_
  exact L4 (s.2.2.2.1 + 1) 0 0 (r : Int) (by omega) (by omega) (by omega) (by omega) rfl

theorem nyX5_fallOf : yX5_fallOf.cls ≠ "java/lang/invoke/MethodHandle" ∧ yX5_fallOf.cls ≠ "java/lang/invoke/VarHandle" ∧ (parseMethodDescriptor yX5_fallOf.desc).map (fun d => d.parameters.length) = some 1 := by decide +kernel
theorem nyX5_within : yX5_within.cls ≠ "java/lang/invoke/MethodHandle" ∧ yX5_within.cls ≠ "java/lang/invoke/VarHandle" ∧ (parseMethodDescriptor yX5_within.desc).map (fun d => d.parameters.length) = some 3 := by decide +kernel
set_option maxHeartbeats 4000000 in
set_option maxRecDepth 100000 in
theorem k_X5_learned (l : Launch) (G : ZG) (B : Nat → Nat) (q0 q1 q2 q3 q4 q5 q6 q7 : Nat) (M : Nat → Int) (s : ZS) (hs : zIs s) (hM : zMs M s) : Kt l G yX5_learned wsX5_learned { frames := 3, cells := 0, slots := 0, locals := 65 } 0 0 False [.ref ((B 0))] [((B 0), .inr (5, [.ref ((B 1)), .ref ((B 2)), .int (iI ((q0 : Int))), .ref ((B 3)), .int (iI ((q1 : Int))), .ref ((B 4)), .ref ((B 5)), .int (iI ((q2 : Int))), .int (iI ((q3 : Int))), .int (iI ((q4 : Int))), .ref ((B 6)), .ref ((B 7)), .int (iI ((q5 : Int))), .int (iI ((q6 : Int))), .ref ((B 8)), .ref ((B 9)), .ref ((B 10)), .ref ((B 11)), .ref ((B 12)), .int (iI ((q7 : Int)))])), cI G (B 1) 1547 M] (fun v9 w9 => v9 = some (.int (iI ((zlearn s.1 s.2.2.2.1)))) ∧ w9 = [((B 0), .inr (5, [.ref ((B 1)), .ref ((B 2)), .int (iI ((q0 : Int))), .ref ((B 3)), .int (iI ((q1 : Int))), .ref ((B 4)), .ref ((B 5)), .int (iI ((q2 : Int))), .int (iI ((q3 : Int))), .int (iI ((q4 : Int))), .ref ((B 6)), .ref ((B 7)), .int (iI ((q5 : Int))), .int (iI ((q6 : Int))), .ref ((B 8)), .ref ((B 9)), .ref ((B 10)), .ref ((B 11)), .ref ((B 12)), .int (iI ((q7 : Int)))])), cI G (B 1) 1547 M]) := by
  refine Kt.of (cc := cX5_learned) (nL := 3) (ret := (some .int)) (own := RX5) rfl (by decide +kernel) rfl (Nat.le_of_ble_eq_true rfl) ?_
  intro X Y C R0 hin
  show Z l X G Y 3 0 0 0 [(0, .ref ((B 0)))] [] [((B 0), .inr (5, [.ref ((B 1)), .ref ((B 2)), .int (iI ((q0 : Int))), .ref ((B 3)), .int (iI ((q1 : Int))), .ref ((B 4)), .ref ((B 5)), .int (iI ((q2 : Int))), .int (iI ((q3 : Int))), .int (iI ((q4 : Int))), .ref ((B 6)), .ref ((B 7)), .int (iI ((q5 : Int))), .int (iI ((q6 : Int))), .ref ((B 8)), .ref ((B 9)), .ref ((B 10)), .ref ((B 11)), .ref ((B 12)), .int (iI ((q7 : Int)))])), cI G (B 1) 1547 M]
  obtain ⟨m0, m1, m2, m3, m4, m5, m6, he, hk⟩ := zMs_r hs hM
  have f4 := zfr_b (b := s.1) (r := 4) he
  have f0 := zfr_b (b := s.1) (r := 0) he
  refine z_aload_n (pc := 0) C dX5_learned_0 0 rfl ?_
  refine z_iconst (pc := 1) C dX5_learned_1 ?_
  refine z_callV (As := [.int (iI 4)]) (rest := []) (wc := [((B 0), .inr (5, [.ref ((B 1)), .ref ((B 2)), .int (iI ((q0 : Int))), .ref ((B 3)), .int (iI ((q1 : Int))), .ref ((B 4)), .ref ((B 5)), .int (iI ((q2 : Int))), .int (iI ((q3 : Int))), .int (iI ((q4 : Int))), .ref ((B 6)), .ref ((B 7)), .int (iI ((q5 : Int))), .int (iI ((q6 : Int))), .ref ((B 8)), .ref ((B 9)), .ref ((B 10)), .ref ((B 11)), .ref ((B 12)), .int (iI ((q7 : Int)))])), cI G (B 1) 1547 M]) (wr := []) (fs := [.ref ((B 1)), .ref ((B 2)), .int (iI ((q0 : Int))), .ref ((B 3)), .int (iI ((q1 : Int))), .ref ((B 4)), .ref ((B 5)), .int (iI ((q2 : Int))), .int (iI ((q3 : Int))), .int (iI ((q4 : Int))), .ref ((B 6)), .ref ((B 7)), .int (iI ((q5 : Int))), .int (iI ((q6 : Int))), .ref ((B 8)), .ref ((B 9)), .ref ((B 10)), .ref ((B 11)), .ref ((B 12)), .int (iI ((q7 : Int)))]) (pc := 2) C dX5_learned_2 (k_X5_fallOf l G B q0 q1 q2 q3 q4 q5 q6 q7 M 4 s hs hM (by decide)) gX5_learned_X5_fallOf ⟨⟨_, rfl⟩, ⟨rfl, rfl⟩, nyX5_fallOf, ⟨Nat.le_of_ble_eq_true rfl, Nat.le_of_ble_eq_true rfl⟩⟩ rfl zCl5 rfl (fun h => h) rfl (Nat.le_of_ble_eq_true rfl) [0, 1] [] rfl rfl (by decide) (by decide) (by decide) ⟨Nat.le_of_ble_eq_true rfl, Nat.le_of_ble_eq_true rfl⟩ (fun v w hk => ?_)
  obtain ⟨rfl, rfl⟩ := hk
  refine z_fix (pc2 := 5) (st2 := [.int (iI ((zfr s.1 s.2.2.2.1 4)))]) (ws' := [((B 0), .inr (5, [.ref ((B 1)), .ref ((B 2)), .int (iI ((q0 : Int))), .ref ((B 3)), .int (iI ((q1 : Int))), .ref ((B 4)), .ref ((B 5)), .int (iI ((q2 : Int))), .int (iI ((q3 : Int))), .int (iI ((q4 : Int))), .ref ((B 6)), .ref ((B 7)), .int (iI ((q5 : Int))), .int (iI ((q6 : Int))), .ref ((B 8)), .ref ((B 9)), .ref ((B 10)), .ref ((B 11)), .ref ((B 12)), .int (iI ((q7 : Int)))])), cI G (B 1) 1547 M]) [0, 1] rfl rfl rfl (by decide) ?_
  refine z_istore_n (lv' := [(1, .int (iI ((zfr s.1 s.2.2.2.1 4)))), (0, .ref ((B 0)))]) (pc := 5) C dX5_learned_5 (by decide) rfl ?_
  refine z_iload_n (pc := 6) C dX5_learned_6 0 rfl ?_
  refine z_bipush (pc := 7) C dX5_learned_7 (by decide +kernel) ?_
  refine z_icmp_ne (tgt := 15) (pc := 9) C dX5_learned_9 (by decide) ⟨by omega, by omega⟩ (by decide) (fun c9 => ?_) (fun c9 => ?_)
  · have f5 := zfr_04 c9
    refine z_iload_n (pc := 15) C dX5_learned_15 0 rfl ?_
    refine z_aload_n (pc := 16) C dX5_learned_16 1 rfl ?_
    refine z_iconst (pc := 17) C dX5_learned_17 ?_
    refine z_callV (As := [.int (iI 0)]) (rest := [.int (iI ((zfr s.1 s.2.2.2.1 4)))]) (wc := [((B 0), .inr (5, [.ref ((B 1)), .ref ((B 2)), .int (iI ((q0 : Int))), .ref ((B 3)), .int (iI ((q1 : Int))), .ref ((B 4)), .ref ((B 5)), .int (iI ((q2 : Int))), .int (iI ((q3 : Int))), .int (iI ((q4 : Int))), .ref ((B 6)), .ref ((B 7)), .int (iI ((q5 : Int))), .int (iI ((q6 : Int))), .ref ((B 8)), .ref ((B 9)), .ref ((B 10)), .ref ((B 11)), .ref ((B 12)), .int (iI ((q7 : Int)))])), cI G (B 1) 1547 M]) (wr := []) (fs := [.ref ((B 1)), .ref ((B 2)), .int (iI ((q0 : Int))), .ref ((B 3)), .int (iI ((q1 : Int))), .ref ((B 4)), .ref ((B 5)), .int (iI ((q2 : Int))), .int (iI ((q3 : Int))), .int (iI ((q4 : Int))), .ref ((B 6)), .ref ((B 7)), .int (iI ((q5 : Int))), .int (iI ((q6 : Int))), .ref ((B 8)), .ref ((B 9)), .ref ((B 10)), .ref ((B 11)), .ref ((B 12)), .int (iI ((q7 : Int)))]) (pc := 18) C dX5_learned_18 (k_X5_fallOf l G B q0 q1 q2 q3 q4 q5 q6 q7 M 0 s hs hM (by decide)) gX5_learned_X5_fallOf ⟨⟨_, rfl⟩, ⟨rfl, rfl⟩, nyX5_fallOf, ⟨Nat.le_of_ble_eq_true rfl, Nat.le_of_ble_eq_true rfl⟩⟩ rfl zCl5 rfl (fun h => h) rfl (Nat.le_of_ble_eq_true rfl) [0, 1] [] rfl rfl (by decide) (by decide) (by decide) ⟨Nat.le_of_ble_eq_true rfl, Nat.le_of_ble_eq_true rfl⟩ (fun v w hk => ?_)
    obtain ⟨rfl, rfl⟩ := hk
    refine z_fix (pc2 := 21) (st2 := [.int (iI ((zfr s.1 s.2.2.2.1 0))), .int (iI ((zfr s.1 s.2.2.2.1 4)))]) (ws' := [((B 0), .inr (5, [.ref ((B 1)), .ref ((B 2)), .int (iI ((q0 : Int))), .ref ((B 3)), .int (iI ((q1 : Int))), .ref ((B 4)), .ref ((B 5)), .int (iI ((q2 : Int))), .int (iI ((q3 : Int))), .int (iI ((q4 : Int))), .ref ((B 6)), .ref ((B 7)), .int (iI ((q5 : Int))), .int (iI ((q6 : Int))), .ref ((B 8)), .ref ((B 9)), .ref ((B 10)), .ref ((B 11)), .ref ((B 12)), .int (iI ((q7 : Int)))])), cI G (B 1) 1547 M]) [0, 1] rfl rfl rfl (by decide) ?_
    refine z_isub (pc := 21) C dX5_learned_21 ?_
    refine z_iconst (pc := 22) C dX5_learned_22 ?_
    refine z_iadd (pc := 23) C dX5_learned_23 ?_
    refine z_bipush (pc := 24) C dX5_learned_24 (by decide +kernel) ?_
    refine z_idiv (pc := 26) C dX5_learned_26 ⟨by omega, by omega⟩ (by decide) ?_
    refine z_istore_n (lv' := [(2, .int (iI (((((zfr s.1 s.2.2.2.1 4) - (zfr s.1 s.2.2.2.1 0)) + 4) / 8)))), (1, .int (iI ((zfr s.1 s.2.2.2.1 4)))), (0, .ref ((B 0)))]) (pc := 27) C dX5_learned_27 (by decide) rfl ?_
    refine z_iload_n (pc := 28) C dX5_learned_28 0 rfl ?_
    refine z_iconst (pc := 29) C dX5_learned_29 ?_
    refine z_bipush (pc := 30) C dX5_learned_30 (by decide +kernel) ?_
    refine z_callS (As := [.int (iI (((((zfr s.1 s.2.2.2.1 4) - (zfr s.1 s.2.2.2.1 0)) + 4) / 8))), .int (iI 4), .int (iI 40)]) (rest := []) (wc := []) (wr := [((B 0), .inr (5, [.ref ((B 1)), .ref ((B 2)), .int (iI ((q0 : Int))), .ref ((B 3)), .int (iI ((q1 : Int))), .ref ((B 4)), .ref ((B 5)), .int (iI ((q2 : Int))), .int (iI ((q3 : Int))), .int (iI ((q4 : Int))), .ref ((B 6)), .ref ((B 7)), .int (iI ((q5 : Int))), .int (iI ((q6 : Int))), .ref ((B 8)), .ref ((B 9)), .ref ((B 10)), .ref ((B 11)), .ref ((B 12)), .int (iI ((q7 : Int)))])), cI G (B 1) 1547 M]) (pc := 32) C dX5_learned_32 (k_X5_within l G ((((zfr s.1 s.2.2.2.1 4) - (zfr s.1 s.2.2.2.1 0)) + 4) / 8) 4 40 ⟨by omega, by omega⟩ (by decide) (by decide)) gX5_learned_X5_within ⟨⟨_, rfl⟩, ⟨rfl, rfl⟩, nyX5_within, ⟨Nat.le_of_ble_eq_true rfl, Nat.le_of_ble_eq_true rfl⟩⟩ (fun h => h) rfl (Nat.le_of_ble_eq_true rfl) [] [0, 1] rfl rfl (by decide) (by decide) (by decide) ⟨Nat.le_of_ble_eq_true rfl, Nat.le_of_ble_eq_true rfl⟩ (fun v w hk => ?_)
    obtain ⟨r_32, h32_0, rfl, rfl⟩ := hk
    refine z_fix (pc2 := 35) (st2 := [.int (iI r_32)]) (ws' := [((B 0), .inr (5, [.ref ((B 1)), .ref ((B 2)), .int (iI ((q0 : Int))), .ref ((B 3)), .int (iI ((q1 : Int))), .ref ((B 4)), .ref ((B 5)), .int (iI ((q2 : Int))), .int (iI ((q3 : Int))), .int (iI ((q4 : Int))), .ref ((B 6)), .ref ((B 7)), .int (iI ((q5 : Int))), .int (iI ((q6 : Int))), .ref ((B 8)), .ref ((B 9)), .ref ((B 10)), .ref ((B 11)), .ref ((B 12)), .int (iI ((q7 : Int)))])), cI G (B 1) 1547 M]) [0, 1] rfl rfl rfl (by decide) ?_
    refine z_if_eq (tgt := 42) (pc := 35) C dX5_learned_35 (by decide) ⟨by omega, by omega⟩ (fun c35 => ?_) (fun c35 => ?_)
    · refine z_bipush (pc := 42) C dX5_learned_42 (by decide +kernel) ?_
      refine z_topi (y := (zlearn s.1 s.2.2.2.1)) (by unfold zlearn; rw [if_neg c9, if_neg (by omega)]) ?_
      exact z_iret (pc := 44) C R0 dX5_learned_44 (⟨rfl, rfl⟩)
    · refine z_iload_n (pc := 38) C dX5_learned_38 0 rfl ?_
      refine z_goto (tgt := 44) (pc := 39) C dX5_learned_39 (by decide) ?_
      refine z_topi (y := (zlearn s.1 s.2.2.2.1)) (by unfold zlearn; rw [if_neg c9, if_pos (by omega)]) ?_
      exact z_iret (pc := 44) C R0 dX5_learned_44 (⟨rfl, rfl⟩)
  · refine z_bipush (pc := 12) C dX5_learned_12 (by decide +kernel) ?_
    refine z_topi (y := (zlearn s.1 s.2.2.2.1)) (by unfold zlearn; rw [if_pos c9]) ?_
    exact z_iret (pc := 14) C R0 dX5_learned_14 (⟨rfl, rfl⟩)

theorem ffX5_falls_7 : zFF wsX5_falls RX5 7 RX5 TX5 20 0 := ⟨by decide +kernel, by decide, by decide +kernel⟩
set_option maxHeartbeats 4000000 in
set_option maxRecDepth 100000 in
theorem k_X5_falls (l : Launch) (G : ZG) (B : Nat → Nat) (q0 q1 q2 q3 q4 q5 q6 q7 : Nat) (M : Nat → Int) (s : ZS) (hs : zIs s) (hM : zMs M s) : Kt l G yX5_falls wsX5_falls { frames := 2, cells := 0, slots := 0, locals := 42 } 0 0 False [.ref ((B 0))] [((B 0), .inr (5, [.ref ((B 1)), .ref ((B 2)), .int (iI ((q0 : Int))), .ref ((B 3)), .int (iI ((q1 : Int))), .ref ((B 4)), .ref ((B 5)), .int (iI ((q2 : Int))), .int (iI ((q3 : Int))), .int (iI ((q4 : Int))), .ref ((B 6)), .ref ((B 7)), .int (iI ((q5 : Int))), .int (iI ((q6 : Int))), .ref ((B 8)), .ref ((B 9)), .ref ((B 10)), .ref ((B 11)), .ref ((B 12)), .int (iI ((q7 : Int)))])), cI G (B 1) 1547 M] (fun v9 w9 => v9 = some (.int (iI ((zcf s.1 s.2.2.2.1)))) ∧ w9 = [((B 0), .inr (5, [.ref ((B 1)), .ref ((B 2)), .int (iI ((q0 : Int))), .ref ((B 3)), .int (iI ((q1 : Int))), .ref ((B 4)), .ref ((B 5)), .int (iI ((q2 : Int))), .int (iI ((q3 : Int))), .int (iI ((q4 : Int))), .ref ((B 6)), .ref ((B 7)), .int (iI ((q5 : Int))), .int (iI ((q6 : Int))), .ref ((B 8)), .ref ((B 9)), .ref ((B 10)), .ref ((B 11)), .ref ((B 12)), .int (iI ((q7 : Int)))])), cI G (B 1) 1547 M]) := by
  refine Kt.of (cc := cX5_falls) (nL := 3) (ret := (some .int)) (own := RX5) rfl (by decide +kernel) rfl (Nat.le_of_ble_eq_true rfl) ?_
  intro X Y C R0 hin
  show Z l X G Y 3 0 0 0 [(0, .ref ((B 0)))] [] [((B 0), .inr (5, [.ref ((B 1)), .ref ((B 2)), .int (iI ((q0 : Int))), .ref ((B 3)), .int (iI ((q1 : Int))), .ref ((B 4)), .ref ((B 5)), .int (iI ((q2 : Int))), .int (iI ((q3 : Int))), .int (iI ((q4 : Int))), .ref ((B 6)), .ref ((B 7)), .int (iI ((q5 : Int))), .int (iI ((q6 : Int))), .ref ((B 8)), .ref ((B 9)), .ref ((B 10)), .ref ((B 11)), .ref ((B 12)), .int (iI ((q7 : Int)))])), cI G (B 1) 1547 M]
  obtain ⟨m0, m1, m2, m3, m4, m5, m6, he, hk⟩ := zMs_r hs hM
  refine z_iconst (pc := 0) C dX5_falls_0 ?_
  refine z_istore_n (lv' := [(1, .int (iI 0)), (0, .ref ((B 0)))]) (pc := 1) C dX5_falls_1 (by decide) rfl ?_
  refine z_iconst (pc := 2) C dX5_falls_2 ?_
  refine z_istore_n (lv' := [(2, .int (iI 0)), (1, .int (iI 0)), (0, .ref ((B 0)))]) (pc := 3) C dX5_falls_3 (by decide) rfl ?_
  have L4 : ∀ (n : Nat) (t : Nat), s.2.2.2.1 < t + n → t ≤ s.2.2.2.1 → Z l X G Y 3 0 0 4 [(0, .ref ((B 0))), (1, .int (iI ((zct (fun t => zB (zfall s.1 t)) 0 t)))), (2, .int (iI ((t : Int))))] [] [((B 0), .inr (5, [.ref ((B 1)), .ref ((B 2)), .int (iI ((q0 : Int))), .ref ((B 3)), .int (iI ((q1 : Int))), .ref ((B 4)), .ref ((B 5)), .int (iI ((q2 : Int))), .int (iI ((q3 : Int))), .int (iI ((q4 : Int))), .ref ((B 6)), .ref ((B 7)), .int (iI ((q5 : Int))), .int (iI ((q6 : Int))), .ref ((B 8)), .ref ((B 9)), .ref ((B 10)), .ref ((B 11)), .ref ((B 12)), .int (iI ((q7 : Int)))])), cI G (B 1) 1547 M] := by
    intro n
    induction n with
    | zero => intro t hn ht; exact absurd hn (by omega)
    | succ n ih =>
      intro t hn ht
      refine z_iload_n (pc := 4) C dX5_falls_4 2 rfl ?_
      refine z_aload_n (pc := 5) C dX5_falls_5 0 rfl ?_
      refine z_get (pc := 6) C dX5_falls_6 zCl5 ffX5_falls_7 0 rfl rfl ?_
      refine z_iconst (pc := 9) C dX5_falls_9 ?_
      refine z_iald (pc := 10) C dX5_falls_10 1 rfl (5) (rfl) (by omega) (by decide) ?_
      refine z_icmp_ge (tgt := 36) (pc := 11) C dX5_falls_11 (by decide) ⟨by omega, by omega⟩ ⟨by omega, by omega⟩ (fun c11 => ?_) (fun c11 => ?_)
      · obtain rfl : t = s.2.2.2.1 := by omega
        refine z_iload_n (pc := 36) C dX5_falls_36 1 rfl ?_
        exact z_iret (pc := 37) C R0 dX5_falls_37 (⟨rfl, rfl⟩)
      · refine z_iload_n (pc := 14) C dX5_falls_14 1 rfl ?_
        refine z_aload_n (pc := 15) C dX5_falls_15 0 rfl ?_
        refine z_iload_n (pc := 16) C dX5_falls_16 2 rfl ?_
        refine z_callV (As := [.int (iI ((t : Int)))]) (rest := [.int (iI ((zct (fun t => zB (zfall s.1 t)) 0 t)))]) (wc := [((B 0), .inr (5, [.ref ((B 1)), .ref ((B 2)), .int (iI ((q0 : Int))), .ref ((B 3)), .int (iI ((q1 : Int))), .ref ((B 4)), .ref ((B 5)), .int (iI ((q2 : Int))), .int (iI ((q3 : Int))), .int (iI ((q4 : Int))), .ref ((B 6)), .ref ((B 7)), .int (iI ((q5 : Int))), .int (iI ((q6 : Int))), .ref ((B 8)), .ref ((B 9)), .ref ((B 10)), .ref ((B 11)), .ref ((B 12)), .int (iI ((q7 : Int)))])), cI G (B 1) 1547 M]) (wr := []) (fs := [.ref ((B 1)), .ref ((B 2)), .int (iI ((q0 : Int))), .ref ((B 3)), .int (iI ((q1 : Int))), .ref ((B 4)), .ref ((B 5)), .int (iI ((q2 : Int))), .int (iI ((q3 : Int))), .int (iI ((q4 : Int))), .ref ((B 6)), .ref ((B 7)), .int (iI ((q5 : Int))), .int (iI ((q6 : Int))), .ref ((B 8)), .ref ((B 9)), .ref ((B 10)), .ref ((B 11)), .ref ((B 12)), .int (iI ((q7 : Int)))]) (pc := 17) C dX5_falls_17 (k_X5_isFall l G B q0 q1 q2 q3 q4 q5 q6 q7 M t s hs hM (by omega)) gX5_falls_X5_isFall ⟨⟨_, rfl⟩, ⟨rfl, rfl⟩, nyX5_isFall, ⟨Nat.le_of_ble_eq_true rfl, Nat.le_of_ble_eq_true rfl⟩⟩ rfl zCl5 rfl (fun h => h) rfl (Nat.le_of_ble_eq_true rfl) [0, 1] [] rfl rfl (by decide) (by decide) (by decide) ⟨Nat.le_of_ble_eq_true rfl, Nat.le_of_ble_eq_true rfl⟩ (fun v w hk => ?_)
        obtain ⟨rfl, rfl⟩ := hk
        refine z_fix (pc2 := 20) (st2 := [.int (iI ((zB (zfall s.1 t)))), .int (iI ((zct (fun t => zB (zfall s.1 t)) 0 t)))]) (ws' := [((B 0), .inr (5, [.ref ((B 1)), .ref ((B 2)), .int (iI ((q0 : Int))), .ref ((B 3)), .int (iI ((q1 : Int))), .ref ((B 4)), .ref ((B 5)), .int (iI ((q2 : Int))), .int (iI ((q3 : Int))), .int (iI ((q4 : Int))), .ref ((B 6)), .ref ((B 7)), .int (iI ((q5 : Int))), .int (iI ((q6 : Int))), .ref ((B 8)), .ref ((B 9)), .ref ((B 10)), .ref ((B 11)), .ref ((B 12)), .int (iI ((q7 : Int)))])), cI G (B 1) 1547 M]) [0, 1] rfl rfl rfl (by decide) ?_
        refine z_if_eq (tgt := 27) (pc := 20) C dX5_falls_20 (by decide) ⟨Int.le_trans (by decide) (zB_b _).1, Int.le_trans (zB_b _).2 (by decide)⟩ (fun c20 => ?_) (fun c20 => ?_)
        · refine z_iconst (pc := 27) C dX5_falls_27 ?_
          refine z_iadd (pc := 28) C dX5_falls_28 ?_
          refine z_topi (y := (zct (fun t => zB (zfall s.1 t)) 0 (t + 1))) (show _ = zct (fun t => zB (zfall s.1 t)) 0 t + zB (zfall s.1 (0 + t)) by rw [Nat.zero_add, c20]) ?_
          refine z_istore_n (lv' := [(1, .int (iI ((zct (fun t => zB (zfall s.1 t)) 0 (t + 1))))), (0, .ref ((B 0))), (2, .int (iI ((t : Int))))]) (pc := 29) C dX5_falls_29 (by decide) rfl ?_
          refine z_iinc (lv' := [(2, .int (iI (((t : Int) + 1)))), (1, .int (iI ((zct (fun t => zB (zfall s.1 t)) 0 (t + 1))))), (0, .ref ((B 0)))]) (pc := 30) C dX5_falls_30 2 rfl (by decide) rfl ?_
          refine z_goto (tgt := 4) (pc := 33) C dX5_falls_33 (by decide) ?_
          refine z_lv (lv' := [(0, .ref ((B 0))), (1, .int (iI ((zct (fun t => zB (zfall s.1 t)) 0 (t + 1))))), (2, .int (iI (((t : Int) + 1))))]) [2, 1, 0] rfl ?_
          exact ih (t + 1) (by omega) (by omega)
        · refine z_iconst (pc := 23) C dX5_falls_23 ?_
          refine z_goto (tgt := 28) (pc := 24) C dX5_falls_24 (by decide) ?_
          refine z_iadd (pc := 28) C dX5_falls_28 ?_
          refine z_topi (y := (zct (fun t => zB (zfall s.1 t)) 0 (t + 1))) (show _ = zct (fun t => zB (zfall s.1 t)) 0 t + zB (zfall s.1 (0 + t)) by rw [Nat.zero_add]; cases hfz : zfall s.1 t; rw [hfz] at c20; exact absurd rfl c20; rfl) ?_
          refine z_istore_n (lv' := [(1, .int (iI ((zct (fun t => zB (zfall s.1 t)) 0 (t + 1))))), (0, .ref ((B 0))), (2, .int (iI ((t : Int))))]) (pc := 29) C dX5_falls_29 (by decide) rfl ?_
          refine z_iinc (lv' := [(2, .int (iI (((t : Int) + 1)))), (1, .int (iI ((zct (fun t => zB (zfall s.1 t)) 0 (t + 1))))), (0, .ref ((B 0)))]) (pc := 30) C dX5_falls_30 2 rfl (by decide) rfl ?_
          refine z_goto (tgt := 4) (pc := 33) C dX5_falls_33 (by decide) ?_
          refine z_lv (lv' := [(0, .ref ((B 0))), (1, .int (iI ((zct (fun t => zB (zfall s.1 t)) 0 (t + 1))))), (2, .int (iI (((t : Int) + 1))))]) [2, 1, 0] rfl ?_
          exact ih (t + 1) (by omega) (by omega)
  refine z_lv (lv' := [(0, .ref ((B 0))), (1, .int (iI 0)), (2, .int (iI 0))]) [2, 1, 0] rfl ?_
  exact L4 (s.2.2.2.1 + 1) 0 (by omega) (by omega)

theorem ffX5_zeros_7 : zFF wsX5_zeros RX5 7 RX5 TX5 20 0 := ⟨by decide +kernel, by decide, by decide +kernel⟩
set_option maxHeartbeats 4000000 in
set_option maxRecDepth 100000 in
theorem k_X5_zeros (l : Launch) (G : ZG) (B : Nat → Nat) (q0 q1 q2 q3 q4 q5 q6 q7 : Nat) (M : Nat → Int) (s : ZS) (hs : zIs s) (hM : zMs M s) : Kt l G yX5_zeros wsX5_zeros { frames := 1, cells := 0, slots := 0, locals := 21 } 0 0 False [.ref ((B 0))] [((B 0), .inr (5, [.ref ((B 1)), .ref ((B 2)), .int (iI ((q0 : Int))), .ref ((B 3)), .int (iI ((q1 : Int))), .ref ((B 4)), .ref ((B 5)), .int (iI ((q2 : Int))), .int (iI ((q3 : Int))), .int (iI ((q4 : Int))), .ref ((B 6)), .ref ((B 7)), .int (iI ((q5 : Int))), .int (iI ((q6 : Int))), .ref ((B 8)), .ref ((B 9)), .ref ((B 10)), .ref ((B 11)), .ref ((B 12)), .int (iI ((q7 : Int)))])), cI G (B 1) 1547 M] (fun v9 w9 => v9 = some (.int (iI ((zcl s.1 s.2.2.2.1)))) ∧ w9 = [((B 0), .inr (5, [.ref ((B 1)), .ref ((B 2)), .int (iI ((q0 : Int))), .ref ((B 3)), .int (iI ((q1 : Int))), .ref ((B 4)), .ref ((B 5)), .int (iI ((q2 : Int))), .int (iI ((q3 : Int))), .int (iI ((q4 : Int))), .ref ((B 6)), .ref ((B 7)), .int (iI ((q5 : Int))), .int (iI ((q6 : Int))), .ref ((B 8)), .ref ((B 9)), .ref ((B 10)), .ref ((B 11)), .ref ((B 12)), .int (iI ((q7 : Int)))])), cI G (B 1) 1547 M]) := by
  refine Kt.of (cc := cX5_zeros) (nL := 3) (ret := (some .int)) (own := RX5) rfl (by decide +kernel) rfl (Nat.le_of_ble_eq_true rfl) ?_
  intro X Y C R0 hin
  show Z l X G Y 3 0 0 0 [(0, .ref ((B 0)))] [] [((B 0), .inr (5, [.ref ((B 1)), .ref ((B 2)), .int (iI ((q0 : Int))), .ref ((B 3)), .int (iI ((q1 : Int))), .ref ((B 4)), .ref ((B 5)), .int (iI ((q2 : Int))), .int (iI ((q3 : Int))), .int (iI ((q4 : Int))), .ref ((B 6)), .ref ((B 7)), .int (iI ((q5 : Int))), .int (iI ((q6 : Int))), .ref ((B 8)), .ref ((B 9)), .ref ((B 10)), .ref ((B 11)), .ref ((B 12)), .int (iI ((q7 : Int)))])), cI G (B 1) 1547 M]
  obtain ⟨m0, m1, m2, m3, m4, m5, m6, he, hk⟩ := zMs_r hs hM
  refine z_iconst (pc := 0) C dX5_zeros_0 ?_
  refine z_istore_n (lv' := [(1, .int (iI 0)), (0, .ref ((B 0)))]) (pc := 1) C dX5_zeros_1 (by decide) rfl ?_
  refine z_iconst (pc := 2) C dX5_zeros_2 ?_
  refine z_istore_n (lv' := [(2, .int (iI 0)), (1, .int (iI 0)), (0, .ref ((B 0)))]) (pc := 3) C dX5_zeros_3 (by decide) rfl ?_
  have L4 : ∀ (n : Nat) (t : Nat), s.2.2.2.1 < t + n → t ≤ s.2.2.2.1 → Z l X G Y 3 0 0 4 [(0, .ref ((B 0))), (1, .int (iI ((zct (fun t => zB (!s.1 t)) 0 t)))), (2, .int (iI ((t : Int))))] [] [((B 0), .inr (5, [.ref ((B 1)), .ref ((B 2)), .int (iI ((q0 : Int))), .ref ((B 3)), .int (iI ((q1 : Int))), .ref ((B 4)), .ref ((B 5)), .int (iI ((q2 : Int))), .int (iI ((q3 : Int))), .int (iI ((q4 : Int))), .ref ((B 6)), .ref ((B 7)), .int (iI ((q5 : Int))), .int (iI ((q6 : Int))), .ref ((B 8)), .ref ((B 9)), .ref ((B 10)), .ref ((B 11)), .ref ((B 12)), .int (iI ((q7 : Int)))])), cI G (B 1) 1547 M] := by
    intro n
    induction n with
    | zero => intro t hn ht; exact absurd hn (by omega)
    | succ n ih =>
      intro t hn ht
      refine z_iload_n (pc := 4) C dX5_zeros_4 2 rfl ?_
      refine z_aload_n (pc := 5) C dX5_zeros_5 0 rfl ?_
      refine z_get (pc := 6) C dX5_zeros_6 zCl5 ffX5_zeros_7 0 rfl rfl ?_
      refine z_iconst (pc := 9) C dX5_zeros_9 ?_
      refine z_iald (pc := 10) C dX5_zeros_10 1 rfl (5) (rfl) (by omega) (by decide) ?_
      refine z_icmp_ge (tgt := 30) (pc := 11) C dX5_zeros_11 (by decide) ⟨by omega, by omega⟩ ⟨by omega, by omega⟩ (fun c11 => ?_) (fun c11 => ?_)
      · obtain rfl : t = s.2.2.2.1 := by omega
        refine z_iload_n (pc := 30) C dX5_zeros_30 1 rfl ?_
        exact z_iret (pc := 31) C R0 dX5_zeros_31 (⟨rfl, rfl⟩)
      · refine z_iload_n (pc := 14) C dX5_zeros_14 1 rfl ?_
        refine z_iconst (pc := 15) C dX5_zeros_15 ?_
        refine z_aload_n (pc := 16) C dX5_zeros_16 0 rfl ?_
        refine z_iload_n (pc := 17) C dX5_zeros_17 2 rfl ?_
        refine z_callV (As := [.int (iI ((t : Int)))]) (rest := [.int (iI 1), .int (iI ((zct (fun t => zB (!s.1 t)) 0 t)))]) (wc := [((B 0), .inr (5, [.ref ((B 1)), .ref ((B 2)), .int (iI ((q0 : Int))), .ref ((B 3)), .int (iI ((q1 : Int))), .ref ((B 4)), .ref ((B 5)), .int (iI ((q2 : Int))), .int (iI ((q3 : Int))), .int (iI ((q4 : Int))), .ref ((B 6)), .ref ((B 7)), .int (iI ((q5 : Int))), .int (iI ((q6 : Int))), .ref ((B 8)), .ref ((B 9)), .ref ((B 10)), .ref ((B 11)), .ref ((B 12)), .int (iI ((q7 : Int)))])), cI G (B 1) 1547 M]) (wr := []) (fs := [.ref ((B 1)), .ref ((B 2)), .int (iI ((q0 : Int))), .ref ((B 3)), .int (iI ((q1 : Int))), .ref ((B 4)), .ref ((B 5)), .int (iI ((q2 : Int))), .int (iI ((q3 : Int))), .int (iI ((q4 : Int))), .ref ((B 6)), .ref ((B 7)), .int (iI ((q5 : Int))), .int (iI ((q6 : Int))), .ref ((B 8)), .ref ((B 9)), .ref ((B 10)), .ref ((B 11)), .ref ((B 12)), .int (iI ((q7 : Int)))]) (pc := 18) C dX5_zeros_18 (k_X5_levelAt l G B q0 q1 q2 q3 q4 q5 q6 q7 M (t : Int) s hs hM ⟨by omega, by omega⟩) gX5_zeros_X5_levelAt ⟨⟨_, rfl⟩, ⟨rfl, rfl⟩, nyX5_levelAt, ⟨Nat.le_of_ble_eq_true rfl, Nat.le_of_ble_eq_true rfl⟩⟩ rfl zCl5 rfl (fun h => h) rfl (Nat.le_of_ble_eq_true rfl) [0, 1] [] rfl rfl (by decide) (by decide) (by decide) ⟨Nat.le_of_ble_eq_true rfl, Nat.le_of_ble_eq_true rfl⟩ (fun v w hk => ?_)
        obtain ⟨rfl, rfl⟩ := hk
        refine z_fix (pc2 := 21) (st2 := [.int (iI ((zlv s.1 (t : Int)))), .int (iI 1), .int (iI ((zct (fun t => zB (!s.1 t)) 0 t)))]) (ws' := [((B 0), .inr (5, [.ref ((B 1)), .ref ((B 2)), .int (iI ((q0 : Int))), .ref ((B 3)), .int (iI ((q1 : Int))), .ref ((B 4)), .ref ((B 5)), .int (iI ((q2 : Int))), .int (iI ((q3 : Int))), .int (iI ((q4 : Int))), .ref ((B 6)), .ref ((B 7)), .int (iI ((q5 : Int))), .int (iI ((q6 : Int))), .ref ((B 8)), .ref ((B 9)), .ref ((B 10)), .ref ((B 11)), .ref ((B 12)), .int (iI ((q7 : Int)))])), cI G (B 1) 1547 M]) [0, 1] rfl rfl rfl (by decide) ?_
        refine z_isub (pc := 21) C dX5_zeros_21 ?_
        refine z_iadd (pc := 22) C dX5_zeros_22 ?_
        refine z_topi (y := (zct (fun t => zB (!s.1 t)) 0 (t + 1))) (show _ = zct (fun t => zB (!s.1 t)) 0 t + zB (!s.1 (0 + t)) by rw [Nat.zero_add, zlv_nat]; cases s.1 t <;> rfl) ?_
        refine z_istore_n (lv' := [(1, .int (iI ((zct (fun t => zB (!s.1 t)) 0 (t + 1))))), (0, .ref ((B 0))), (2, .int (iI ((t : Int))))]) (pc := 23) C dX5_zeros_23 (by decide) rfl ?_
        refine z_iinc (lv' := [(2, .int (iI (((t : Int) + 1)))), (1, .int (iI ((zct (fun t => zB (!s.1 t)) 0 (t + 1))))), (0, .ref ((B 0)))]) (pc := 24) C dX5_zeros_24 2 rfl (by decide) rfl ?_
        refine z_goto (tgt := 4) (pc := 27) C dX5_zeros_27 (by decide) ?_
        refine z_lv (lv' := [(0, .ref ((B 0))), (1, .int (iI ((zct (fun t => zB (!s.1 t)) 0 (t + 1))))), (2, .int (iI (((t : Int) + 1))))]) [2, 1, 0] rfl ?_
        exact ih (t + 1) (by omega) (by omega)
  refine z_lv (lv' := [(0, .ref ((B 0))), (1, .int (iI 0)), (2, .int (iI 0))]) [2, 1, 0] rfl ?_
  exact L4 (s.2.2.2.1 + 1) 0 (by omega) (by omega)
