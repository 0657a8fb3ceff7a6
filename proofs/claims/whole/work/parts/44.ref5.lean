/-! THE REFERENCE, walked: bits, and what begins at a fall -/
theorem ffX5_bit_40 : zFF wsX5_bit RX5 40 RX5 TX5 20 17 := ⟨by decide +kernel, by decide, by decide +kernel⟩
theorem ffX5_bit_109 : zFF wsX5_bit RX5 109 RX5 TX5 20 12 := ⟨by decide +kernel, by decide, by decide +kernel⟩
theorem ffX5_bit_7 : zFF wsX5_bit RX5 7 RX5 TX5 20 0 := ⟨by decide +kernel, by decide, by decide +kernel⟩
set_option maxHeartbeats 4000000 in
set_option maxRecDepth 100000 in
theorem k_X5_bit (l : Launch) (G : ZG) (B : Nat → Nat) (q0 q1 q2 q3 q4 q5 q6 q7 : Nat) (M K3 : Nat → Int) (f : Nat) (r : Nat) (s : ZS) (hs : zIs s) (hM : zMs M s) (hf : f ≤ 100000) (hr : 4 ≤ r ∧ r ≤ 40) (h39 : q5 ≤ 39) : Kt l G yX5_bit wsX5_bit { frames := 1, cells := 0, slots := 0, locals := 21 } 0 0 False [.ref ((B 0)), .int (iI ((f : Int))), .int (iI ((r : Int)))] [((B 0), .inr (5, [.ref ((B 1)), .ref ((B 2)), .int (iI ((q0 : Int))), .ref ((B 3)), .int (iI ((q1 : Int))), .ref ((B 4)), .ref ((B 5)), .int (iI ((q2 : Int))), .int (iI ((q3 : Int))), .int (iI ((q4 : Int))), .ref ((B 6)), .ref ((B 7)), .int (iI ((q5 : Int))), .int (iI ((q6 : Int))), .ref ((B 8)), .ref ((B 9)), .ref ((B 10)), .ref ((B 11)), .ref ((B 12)), .int (iI ((q7 : Int)))])), cI G (B 1) 1547 M, cI G (B 11) 64 K3] (fun v9 w9 => v9 = some (.int (iI ((((zvo s.1 (s.2.2.1 4) f r) : Nat) : Int)))) ∧ w9 = [((B 0), .inr (5, [.ref ((B 1)), .ref ((B 2)), .int (iI ((q0 : Int))), .ref ((B 3)), .int (iI ((q1 : Int))), .ref ((B 4)), .ref ((B 5)), .int (iI ((q2 : Int))), .int (iI ((q3 : Int))), .int (iI ((q4 : Int))), .ref ((B 6)), .ref ((B 7)), .int (iI ((q5 : Int))), .int (iI ((q6 : Int))), .ref ((B 8)), .ref ((B 9)), .ref ((B 10)), .ref ((B 11)), .ref ((B 12)), .int (iI ((q7 : Int)))])), cI G (B 1) 1547 M, cI G (B 11) 64 (zU K3 q5 (K3 q5 + ((zdo s.1 f r : Nat) : Int)))]) := by
  refine Kt.of (cc := cX5_bit) (nL := 7) (ret := (some .int)) (own := RX5) rfl (by decide +kernel) rfl (Nat.le_of_ble_eq_true rfl) ?_
  intro X Y C R0 hin
  show Z l X G Y 7 0 0 0 [(0, .ref ((B 0))), (1, .int (iI ((f : Int)))), (2, .int (iI ((r : Int))))] [] [((B 0), .inr (5, [.ref ((B 1)), .ref ((B 2)), .int (iI ((q0 : Int))), .ref ((B 3)), .int (iI ((q1 : Int))), .ref ((B 4)), .ref ((B 5)), .int (iI ((q2 : Int))), .int (iI ((q3 : Int))), .int (iI ((q4 : Int))), .ref ((B 6)), .ref ((B 7)), .int (iI ((q5 : Int))), .int (iI ((q6 : Int))), .ref ((B 8)), .ref ((B 9)), .ref ((B 10)), .ref ((B 11)), .ref ((B 12)), .int (iI ((q7 : Int)))])), cI G (B 1) 1547 M, cI G (B 11) 64 K3]
  obtain ⟨m0, m1, m2, m3, m4, m5, m6, he, hk⟩ := zMs_r hs hM
  have h3b := zsm_b s.1 f r
  refine z_aload_n (pc := 0) C dX5_bit_0 0 rfl ?_
  refine z_iload_n (pc := 1) C dX5_bit_1 1 rfl ?_
  refine z_iload_n (pc := 2) C dX5_bit_2 2 rfl ?_
  refine z_iconst (pc := 3) C dX5_bit_3 ?_
  refine z_idiv (pc := 4) C dX5_bit_4 ⟨by omega, by omega⟩ (by decide) ?_
  refine z_iadd (pc := 5) C dX5_bit_5 ?_
  refine z_callV (As := [.int (iI (((f : Int) + ((r : Int) / 3))))]) (rest := []) (wc := [((B 0), .inr (5, [.ref ((B 1)), .ref ((B 2)), .int (iI ((q0 : Int))), .ref ((B 3)), .int (iI ((q1 : Int))), .ref ((B 4)), .ref ((B 5)), .int (iI ((q2 : Int))), .int (iI ((q3 : Int))), .int (iI ((q4 : Int))), .ref ((B 6)), .ref ((B 7)), .int (iI ((q5 : Int))), .int (iI ((q6 : Int))), .ref ((B 8)), .ref ((B 9)), .ref ((B 10)), .ref ((B 11)), .ref ((B 12)), .int (iI ((q7 : Int)))])), cI G (B 1) 1547 M]) (wr := [cI G (B 11) 64 K3]) (fs := [.ref ((B 1)), .ref ((B 2)), .int (iI ((q0 : Int))), .ref ((B 3)), .int (iI ((q1 : Int))), .ref ((B 4)), .ref ((B 5)), .int (iI ((q2 : Int))), .int (iI ((q3 : Int))), .int (iI ((q4 : Int))), .ref ((B 6)), .ref ((B 7)), .int (iI ((q5 : Int))), .int (iI ((q6 : Int))), .ref ((B 8)), .ref ((B 9)), .ref ((B 10)), .ref ((B 11)), .ref ((B 12)), .int (iI ((q7 : Int)))]) (pc := 6) C dX5_bit_6 (k_X5_levelAt l G B q0 q1 q2 q3 q4 q5 q6 q7 M (((f + r / 3) : Nat) : Int) s hs hM ⟨by omega, by omega⟩) gX5_bit_X5_levelAt ⟨⟨_, rfl⟩, ⟨rfl, rfl⟩, nyX5_levelAt, ⟨Nat.le_of_ble_eq_true rfl, Nat.le_of_ble_eq_true rfl⟩⟩ rfl zCl5 rfl (fun h => h) rfl (Nat.le_of_ble_eq_true rfl) [0, 1] [2] rfl rfl (by decide) (by decide) (by decide) ⟨Nat.le_of_ble_eq_true rfl, Nat.le_of_ble_eq_true rfl⟩ (fun v w hk => ?_)
  obtain ⟨rfl, rfl⟩ := hk
  refine z_fix (pc2 := 9) (st2 := [.int (iI ((zlv s.1 (((f + r / 3) : Nat) : Int))))]) (ws' := [((B 0), .inr (5, [.ref ((B 1)), .ref ((B 2)), .int (iI ((q0 : Int))), .ref ((B 3)), .int (iI ((q1 : Int))), .ref ((B 4)), .ref ((B 5)), .int (iI ((q2 : Int))), .int (iI ((q3 : Int))), .int (iI ((q4 : Int))), .ref ((B 6)), .ref ((B 7)), .int (iI ((q5 : Int))), .int (iI ((q6 : Int))), .ref ((B 8)), .ref ((B 9)), .ref ((B 10)), .ref ((B 11)), .ref ((B 12)), .int (iI ((q7 : Int)))])), cI G (B 1) 1547 M, cI G (B 11) 64 K3]) [1, 2, 0] rfl rfl rfl (by decide) ?_
  refine z_topi (y := (((s.1 (f + r / 3)).toNat : Nat) : Int)) (zlv_nat _ _) ?_
  refine z_istore_n (lv' := [(3, .int (iI ((((s.1 (f + r / 3)).toNat : Nat) : Int)))), (0, .ref ((B 0))), (1, .int (iI ((f : Int)))), (2, .int (iI ((r : Int))))]) (pc := 9) C dX5_bit_9 (by decide) rfl ?_
  refine z_aload_n (pc := 10) C dX5_bit_10 1 rfl ?_
  refine z_iload_n (pc := 11) C dX5_bit_11 2 rfl ?_
  refine z_iload_n (pc := 12) C dX5_bit_12 3 rfl ?_
  refine z_iconst (pc := 13) C dX5_bit_13 ?_
  refine z_idiv (pc := 14) C dX5_bit_14 ⟨by omega, by omega⟩ (by decide) ?_
  refine z_iadd (pc := 15) C dX5_bit_15 ?_
  refine z_callV (As := [.int (iI (((f : Int) + ((r : Int) / 2))))]) (rest := []) (wc := [((B 0), .inr (5, [.ref ((B 1)), .ref ((B 2)), .int (iI ((q0 : Int))), .ref ((B 3)), .int (iI ((q1 : Int))), .ref ((B 4)), .ref ((B 5)), .int (iI ((q2 : Int))), .int (iI ((q3 : Int))), .int (iI ((q4 : Int))), .ref ((B 6)), .ref ((B 7)), .int (iI ((q5 : Int))), .int (iI ((q6 : Int))), .ref ((B 8)), .ref ((B 9)), .ref ((B 10)), .ref ((B 11)), .ref ((B 12)), .int (iI ((q7 : Int)))])), cI G (B 1) 1547 M]) (wr := [cI G (B 11) 64 K3]) (fs := [.ref ((B 1)), .ref ((B 2)), .int (iI ((q0 : Int))), .ref ((B 3)), .int (iI ((q1 : Int))), .ref ((B 4)), .ref ((B 5)), .int (iI ((q2 : Int))), .int (iI ((q3 : Int))), .int (iI ((q4 : Int))), .ref ((B 6)), .ref ((B 7)), .int (iI ((q5 : Int))), .int (iI ((q6 : Int))), .ref ((B 8)), .ref ((B 9)), .ref ((B 10)), .ref ((B 11)), .ref ((B 12)), .int (iI ((q7 : Int)))]) (pc := 16) C dX5_bit_16 (k_X5_levelAt l G B q0 q1 q2 q3 q4 q5 q6 q7 M (((f + r / 2) : Nat) : Int) s hs hM ⟨by omega, by omega⟩) gX5_bit_X5_levelAt ⟨⟨_, rfl⟩, ⟨rfl, rfl⟩, nyX5_levelAt, ⟨Nat.le_of_ble_eq_true rfl, Nat.le_of_ble_eq_true rfl⟩⟩ rfl zCl5 rfl (fun h => h) rfl (Nat.le_of_ble_eq_true rfl) [0, 1] [2] rfl rfl (by decide) (by decide) (by decide) ⟨Nat.le_of_ble_eq_true rfl, Nat.le_of_ble_eq_true rfl⟩ (fun v w hk => ?_)
  obtain ⟨rfl, rfl⟩ := hk
  refine z_fix (pc2 := 19) (st2 := [.int (iI ((zlv s.1 (((f + r / 2) : Nat) : Int))))]) (ws' := [((B 0), .inr (5, [.ref ((B 1)), .ref ((B 2)), .int (iI ((q0 : Int))), .ref ((B 3)), .int (iI ((q1 : Int))), .ref ((B 4)), .ref ((B 5)), .int (iI ((q2 : Int))), .int (iI ((q3 : Int))), .int (iI ((q4 : Int))), .ref ((B 6)), .ref ((B 7)), .int (iI ((q5 : Int))), .int (iI ((q6 : Int))), .ref ((B 8)), .ref ((B 9)), .ref ((B 10)), .ref ((B 11)), .ref ((B 12)), .int (iI ((q7 : Int)))])), cI G (B 1) 1547 M, cI G (B 11) 64 K3]) [1, 2, 0] rfl rfl rfl (by decide) ?_
  refine z_topi (y := (((s.1 (f + r / 2)).toNat : Nat) : Int)) (zlv_nat _ _) ?_
  refine z_istore (lv' := [(4, .int (iI ((((s.1 (f + r / 2)).toNat : Nat) : Int)))), (3, .int (iI ((((s.1 (f + r / 3)).toNat : Nat) : Int)))), (0, .ref ((B 0))), (1, .int (iI ((f : Int)))), (2, .int (iI ((r : Int))))]) (pc := 19) C dX5_bit_19 (by decide) rfl ?_
  refine z_aload_n (pc := 21) C dX5_bit_21 2 rfl ?_
  refine z_iload_n (pc := 22) C dX5_bit_22 3 rfl ?_
  refine z_iconst (pc := 23) C dX5_bit_23 ?_
  refine z_iload_n (pc := 24) C dX5_bit_24 4 rfl ?_
  refine z_imul (pc := 25) C dX5_bit_25 ?_
  refine z_iconst (pc := 26) C dX5_bit_26 ?_
  refine z_idiv (pc := 27) C dX5_bit_27 ⟨by omega, by omega⟩ (by decide) ?_
  refine z_iadd (pc := 28) C dX5_bit_28 ?_
  refine z_callV (As := [.int (iI (((f : Int) + ((2 * (r : Int)) / 3))))]) (rest := []) (wc := [((B 0), .inr (5, [.ref ((B 1)), .ref ((B 2)), .int (iI ((q0 : Int))), .ref ((B 3)), .int (iI ((q1 : Int))), .ref ((B 4)), .ref ((B 5)), .int (iI ((q2 : Int))), .int (iI ((q3 : Int))), .int (iI ((q4 : Int))), .ref ((B 6)), .ref ((B 7)), .int (iI ((q5 : Int))), .int (iI ((q6 : Int))), .ref ((B 8)), .ref ((B 9)), .ref ((B 10)), .ref ((B 11)), .ref ((B 12)), .int (iI ((q7 : Int)))])), cI G (B 1) 1547 M]) (wr := [cI G (B 11) 64 K3]) (fs := [.ref ((B 1)), .ref ((B 2)), .int (iI ((q0 : Int))), .ref ((B 3)), .int (iI ((q1 : Int))), .ref ((B 4)), .ref ((B 5)), .int (iI ((q2 : Int))), .int (iI ((q3 : Int))), .int (iI ((q4 : Int))), .ref ((B 6)), .ref ((B 7)), .int (iI ((q5 : Int))), .int (iI ((q6 : Int))), .ref ((B 8)), .ref ((B 9)), .ref ((B 10)), .ref ((B 11)), .ref ((B 12)), .int (iI ((q7 : Int)))]) (pc := 29) C dX5_bit_29 (k_X5_levelAt l G B q0 q1 q2 q3 q4 q5 q6 q7 M (((f + 2 * r / 3) : Nat) : Int) s hs hM ⟨by omega, by omega⟩) gX5_bit_X5_levelAt ⟨⟨_, rfl⟩, ⟨rfl, rfl⟩, nyX5_levelAt, ⟨Nat.le_of_ble_eq_true rfl, Nat.le_of_ble_eq_true rfl⟩⟩ rfl zCl5 rfl (fun h => h) rfl (Nat.le_of_ble_eq_true rfl) [0, 1] [2] rfl rfl (by decide) (by decide) (by decide) ⟨Nat.le_of_ble_eq_true rfl, Nat.le_of_ble_eq_true rfl⟩ (fun v w hk => ?_)
  obtain ⟨rfl, rfl⟩ := hk
  refine z_fix (pc2 := 32) (st2 := [.int (iI ((zlv s.1 (((f + 2 * r / 3) : Nat) : Int))))]) (ws' := [((B 0), .inr (5, [.ref ((B 1)), .ref ((B 2)), .int (iI ((q0 : Int))), .ref ((B 3)), .int (iI ((q1 : Int))), .ref ((B 4)), .ref ((B 5)), .int (iI ((q2 : Int))), .int (iI ((q3 : Int))), .int (iI ((q4 : Int))), .ref ((B 6)), .ref ((B 7)), .int (iI ((q5 : Int))), .int (iI ((q6 : Int))), .ref ((B 8)), .ref ((B 9)), .ref ((B 10)), .ref ((B 11)), .ref ((B 12)), .int (iI ((q7 : Int)))])), cI G (B 1) 1547 M, cI G (B 11) 64 K3]) [1, 2, 0] rfl rfl rfl (by decide) ?_
  refine z_topi (y := (((s.1 (f + 2 * r / 3)).toNat : Nat) : Int)) (zlv_nat _ _) ?_
  refine z_istore (lv' := [(5, .int (iI ((((s.1 (f + 2 * r / 3)).toNat : Nat) : Int)))), (4, .int (iI ((((s.1 (f + r / 2)).toNat : Nat) : Int)))), (3, .int (iI ((((s.1 (f + r / 3)).toNat : Nat) : Int)))), (0, .ref ((B 0))), (1, .int (iI ((f : Int)))), (2, .int (iI ((r : Int))))]) (pc := 32) C dX5_bit_32 (by decide) rfl ?_
  refine z_iload_n (pc := 34) C dX5_bit_34 2 rfl ?_
  refine z_iload (pc := 35) C dX5_bit_35 1 rfl ?_
  refine z_iadd (pc := 37) C dX5_bit_37 ?_
  refine z_iload (pc := 38) C dX5_bit_38 0 rfl ?_
  refine z_iadd (pc := 40) C dX5_bit_40 ?_
  refine z_topi (y := (((zsm s.1 f r) : Nat) : Int)) (rfl) ?_
  refine z_istore (lv' := [(6, .int (iI ((((zsm s.1 f r) : Nat) : Int)))), (5, .int (iI ((((s.1 (f + 2 * r / 3)).toNat : Nat) : Int)))), (4, .int (iI ((((s.1 (f + r / 2)).toNat : Nat) : Int)))), (3, .int (iI ((((s.1 (f + r / 3)).toNat : Nat) : Int)))), (0, .ref ((B 0))), (1, .int (iI ((f : Int)))), (2, .int (iI ((r : Int))))]) (pc := 41) C dX5_bit_41 (by decide) rfl ?_
  refine z_aload_n (pc := 43) C dX5_bit_43 4 rfl ?_
  refine z_get (pc := 44) C dX5_bit_44 zCl5 ffX5_bit_40 0 rfl rfl ?_
  refine z_aload_n (pc := 47) C dX5_bit_47 4 rfl ?_
  refine z_get (pc := 48) C dX5_bit_48 zCl5 ffX5_bit_109 0 rfl rfl ?_
  refine z_dup2 (pc := 51) C dX5_bit_51 rfl rfl ?_
  refine z_iald (pc := 52) C dX5_bit_52 2 rfl (q5) (by omega) (by omega) (by decide) ?_
  refine z_iload (pc := 53) C dX5_bit_53 0 rfl ?_
  refine z_iconst (pc := 55) C dX5_bit_55 ?_
  refine z_irem (pc := 56) C dX5_bit_56 ⟨by omega, by omega⟩ (by decide) ?_
  refine z_if_ne (tgt := 64) (pc := 57) C dX5_bit_57 (by decide) ⟨by omega, by omega⟩ (fun c57 => ?_) (fun c57 => ?_)
  · refine z_iconst (pc := 64) C dX5_bit_64 ?_
    refine z_iadd (pc := 65) C dX5_bit_65 ?_
    refine z_topi (y := (K3 q5 + ((zdo s.1 f r : Nat) : Int))) (by unfold zdo; rw [if_neg (by omega)]; rfl) ?_
    refine z_iast (ws' := [((B 0), .inr (5, [.ref ((B 1)), .ref ((B 2)), .int (iI ((q0 : Int))), .ref ((B 3)), .int (iI ((q1 : Int))), .ref ((B 4)), .ref ((B 5)), .int (iI ((q2 : Int))), .int (iI ((q3 : Int))), .int (iI ((q4 : Int))), .ref ((B 6)), .ref ((B 7)), .int (iI ((q5 : Int))), .int (iI ((q6 : Int))), .ref ((B 8)), .ref ((B 9)), .ref ((B 10)), .ref ((B 11)), .ref ((B 12)), .int (iI ((q7 : Int)))])), cI G (B 1) 1547 M, cI G (B 11) 64 (zU K3 q5 (K3 q5 + ((zdo s.1 f r : Nat) : Int)))]) (pc := 66) C dX5_bit_66 2 rfl (q5) (by omega) (by omega) (by decide) rfl ?_
    refine z_aload_n (pc := 67) C dX5_bit_67 4 rfl ?_
    refine z_get (pc := 68) C dX5_bit_68 zCl5 ffX5_bit_7 0 rfl rfl ?_
    refine z_iconst (pc := 71) C dX5_bit_71 ?_
    refine z_iald (pc := 72) C dX5_bit_72 1 rfl (4) (rfl) (by omega) (by decide) ?_
    refine z_iconst (pc := 73) C dX5_bit_73 ?_
    refine z_icmp_ne (tgt := 82) (pc := 74) C dX5_bit_74 (by decide) ⟨by omega, by omega⟩ (by decide) (fun c74 => ?_) (fun c74 => ?_)
    · refine z_iload (pc := 82) C dX5_bit_82 0 rfl ?_
      refine z_iconst (pc := 84) C dX5_bit_84 ?_
      refine z_icmp_le (tgt := 92) (pc := 85) C dX5_bit_85 (by decide) ⟨by omega, by omega⟩ (by decide) (fun c85 => ?_) (fun c85 => ?_)
      · refine z_iconst (pc := 92) C dX5_bit_92 ?_
        refine z_topi (y := (((zvo s.1 (s.2.2.1 4) f r) : Nat) : Int)) (by unfold zvo; rw [if_neg (by omega), if_neg (by omega)]; rfl) ?_
        exact z_iret (pc := 93) C R0 dX5_bit_93 (⟨rfl, rfl⟩)
      · refine z_iconst (pc := 88) C dX5_bit_88 ?_
        refine z_goto (tgt := 93) (pc := 89) C dX5_bit_89 (by decide) ?_
        refine z_topi (y := (((zvo s.1 (s.2.2.1 4) f r) : Nat) : Int)) (by unfold zvo; rw [if_neg (by omega), if_pos (by omega)]; rfl) ?_
        exact z_iret (pc := 93) C R0 dX5_bit_93 (⟨rfl, rfl⟩)
    · refine z_iload (pc := 77) C dX5_bit_77 2 rfl ?_
      refine z_goto (tgt := 93) (pc := 79) C dX5_bit_79 (by decide) ?_
      refine z_topi (y := (((zvo s.1 (s.2.2.1 4) f r) : Nat) : Int)) (by unfold zvo; rw [if_pos (by omega)]) ?_
      exact z_iret (pc := 93) C R0 dX5_bit_93 (⟨rfl, rfl⟩)
  · refine z_iconst (pc := 60) C dX5_bit_60 ?_
    refine z_goto (tgt := 65) (pc := 61) C dX5_bit_61 (by decide) ?_
    refine z_iadd (pc := 65) C dX5_bit_65 ?_
    refine z_topi (y := (K3 q5 + ((zdo s.1 f r : Nat) : Int))) (by unfold zdo; rw [if_pos (by omega)]; rfl) ?_
    refine z_iast (ws' := [((B 0), .inr (5, [.ref ((B 1)), .ref ((B 2)), .int (iI ((q0 : Int))), .ref ((B 3)), .int (iI ((q1 : Int))), .ref ((B 4)), .ref ((B 5)), .int (iI ((q2 : Int))), .int (iI ((q3 : Int))), .int (iI ((q4 : Int))), .ref ((B 6)), .ref ((B 7)), .int (iI ((q5 : Int))), .int (iI ((q6 : Int))), .ref ((B 8)), .ref ((B 9)), .ref ((B 10)), .ref ((B 11)), .ref ((B 12)), .int (iI ((q7 : Int)))])), cI G (B 1) 1547 M, cI G (B 11) 64 (zU K3 q5 (K3 q5 + ((zdo s.1 f r : Nat) : Int)))]) (pc := 66) C dX5_bit_66 2 rfl (q5) (by omega) (by omega) (by decide) rfl ?_
    refine z_aload_n (pc := 67) C dX5_bit_67 4 rfl ?_
    refine z_get (pc := 68) C dX5_bit_68 zCl5 ffX5_bit_7 0 rfl rfl ?_
    refine z_iconst (pc := 71) C dX5_bit_71 ?_
    refine z_iald (pc := 72) C dX5_bit_72 1 rfl (4) (rfl) (by omega) (by decide) ?_
    refine z_iconst (pc := 73) C dX5_bit_73 ?_
    refine z_icmp_ne (tgt := 82) (pc := 74) C dX5_bit_74 (by decide) ⟨by omega, by omega⟩ (by decide) (fun c74 => ?_) (fun c74 => ?_)
    · refine z_iload (pc := 82) C dX5_bit_82 0 rfl ?_
      refine z_iconst (pc := 84) C dX5_bit_84 ?_
      refine z_icmp_le (tgt := 92) (pc := 85) C dX5_bit_85 (by decide) ⟨by omega, by omega⟩ (by decide) (fun c85 => ?_) (fun c85 => ?_)
      · refine z_iconst (pc := 92) C dX5_bit_92 ?_
        refine z_topi (y := (((zvo s.1 (s.2.2.1 4) f r) : Nat) : Int)) (by unfold zvo; rw [if_neg (by omega), if_neg (by omega)]; rfl) ?_
        exact z_iret (pc := 93) C R0 dX5_bit_93 (⟨rfl, rfl⟩)
      · refine z_iconst (pc := 88) C dX5_bit_88 ?_
        refine z_goto (tgt := 93) (pc := 89) C dX5_bit_89 (by decide) ?_
        refine z_topi (y := (((zvo s.1 (s.2.2.1 4) f r) : Nat) : Int)) (by unfold zvo; rw [if_neg (by omega), if_pos (by omega)]; rfl) ?_
        exact z_iret (pc := 93) C R0 dX5_bit_93 (⟨rfl, rfl⟩)
    · refine z_iload (pc := 77) C dX5_bit_77 2 rfl ?_
      refine z_goto (tgt := 93) (pc := 79) C dX5_bit_79 (by decide) ?_
      refine z_topi (y := (((zvo s.1 (s.2.2.1 4) f r) : Nat) : Int)) (by unfold zvo; rw [if_pos (by omega)]) ?_
      exact z_iret (pc := 93) C R0 dX5_bit_93 (⟨rfl, rfl⟩)

theorem ffX5_tells_40 : zFF wsX5_tells RX5 40 RX5 TX5 20 17 := ⟨by decide +kernel, by decide, by decide +kernel⟩
theorem ffX5_tells_109 : zFF wsX5_tells RX5 109 RX5 TX5 20 12 := ⟨by decide +kernel, by decide, by decide +kernel⟩
theorem nyX5_bit : yX5_bit.cls ≠ "java/lang/invoke/MethodHandle" ∧ yX5_bit.cls ≠ "java/lang/invoke/VarHandle" ∧ (parseMethodDescriptor yX5_bit.desc).map (fun d => d.parameters.length) = some 2 := by decide +kernel
set_option maxHeartbeats 4000000 in
set_option maxRecDepth 100000 in
theorem k_X5_tells_f (l : Launch) (G : ZG) (B : Nat → Nat) (q0 q1 q2 q3 q4 q5 q6 q7 : Nat) (M K0 K1 K2 K3 K4 : Nat → Int) (t : Nat) (r : Nat) (s : ZS) (hs : zIs s) (hM : zMs M s) (ht : t ≤ 1500) (hr : 4 ≤ r ∧ r ≤ 40) (h39 : q5 < 39) (hv : zvo s.1 (s.2.2.1 4) t r = 1) : Kt l G yX5_tells wsX5_tells { frames := 2, cells := 0, slots := 0, locals := 47 } 0 0 False [.ref ((B 0)), .int (iI ((t : Int))), .int (iI ((r : Int)))] [((B 0), .inr (5, [.ref ((B 1)), .ref ((B 2)), .int (iI ((q0 : Int))), .ref ((B 3)), .int (iI ((q1 : Int))), .ref ((B 4)), .ref ((B 5)), .int (iI ((q2 : Int))), .int (iI ((q3 : Int))), .int (iI ((q4 : Int))), .ref ((B 6)), .ref ((B 7)), .int (iI ((q5 : Int))), .int (iI ((q6 : Int))), .ref ((B 8)), .ref ((B 9)), .ref ((B 10)), .ref ((B 11)), .ref ((B 12)), .int (iI ((q7 : Int)))])), cI G (B 1) 1547 M, cI G (B 8) 64 K0, cI G (B 9) 64 K1, cI G (B 10) 64 K2, cI G (B 11) 64 K3, cI G (B 12) 64 K4] (fun v9 w9 => ∃ (N3 : Nat → Int), (∀ j, ¬ j = q5 → N3 j = K3 j) ∧ v9 = some (.int (iI 0)) ∧ w9 = [((B 0), .inr (5, [.ref ((B 1)), .ref ((B 2)), .int (iI ((q0 : Int))), .ref ((B 3)), .int (iI ((q1 : Int))), .ref ((B 4)), .ref ((B 5)), .int (iI ((q2 : Int))), .int (iI ((q3 : Int))), .int (iI ((q4 : Int))), .ref ((B 6)), .ref ((B 7)), .int (iI ((q5 : Int))), .int (iI ((q6 : Int))), .ref ((B 8)), .ref ((B 9)), .ref ((B 10)), .ref ((B 11)), .ref ((B 12)), .int (iI ((q7 : Int)))])), cI G (B 1) 1547 M, cI G (B 8) 64 K0, cI G (B 9) 64 K1, cI G (B 10) 64 K2, cI G (B 11) 64 N3, cI G (B 12) 64 K4]) := by
  refine Kt.of (cc := cX5_tells) (nL := 9) (ret := (some .boolean)) (own := RX5) rfl (by decide +kernel) rfl (Nat.le_of_ble_eq_true rfl) ?_
  intro X Y C R0 hin
  show Z l X G Y 9 0 0 0 [(0, .ref ((B 0))), (1, .int (iI ((t : Int)))), (2, .int (iI ((r : Int))))] [] [((B 0), .inr (5, [.ref ((B 1)), .ref ((B 2)), .int (iI ((q0 : Int))), .ref ((B 3)), .int (iI ((q1 : Int))), .ref ((B 4)), .ref ((B 5)), .int (iI ((q2 : Int))), .int (iI ((q3 : Int))), .int (iI ((q4 : Int))), .ref ((B 6)), .ref ((B 7)), .int (iI ((q5 : Int))), .int (iI ((q6 : Int))), .ref ((B 8)), .ref ((B 9)), .ref ((B 10)), .ref ((B 11)), .ref ((B 12)), .int (iI ((q7 : Int)))])), cI G (B 1) 1547 M, cI G (B 8) 64 K0, cI G (B 9) 64 K1, cI G (B 10) 64 K2, cI G (B 11) 64 K3, cI G (B 12) 64 K4]
  obtain ⟨m0, m1, m2, m3, m4, m5, m6, he, hk⟩ := zMs_r hs hM
  refine z_aload_n (pc := 0) C dX5_tells_0 0 rfl ?_
  refine z_get (pc := 1) C dX5_tells_1 zCl5 ffX5_tells_40 0 rfl rfl ?_
  refine z_aload_n (pc := 4) C dX5_tells_4 0 rfl ?_
  refine z_get (pc := 5) C dX5_tells_5 zCl5 ffX5_tells_109 0 rfl rfl ?_
  refine z_iconst (pc := 8) C dX5_tells_8 ?_
  refine z_iast (ws' := [((B 0), .inr (5, [.ref ((B 1)), .ref ((B 2)), .int (iI ((q0 : Int))), .ref ((B 3)), .int (iI ((q1 : Int))), .ref ((B 4)), .ref ((B 5)), .int (iI ((q2 : Int))), .int (iI ((q3 : Int))), .int (iI ((q4 : Int))), .ref ((B 6)), .ref ((B 7)), .int (iI ((q5 : Int))), .int (iI ((q6 : Int))), .ref ((B 8)), .ref ((B 9)), .ref ((B 10)), .ref ((B 11)), .ref ((B 12)), .int (iI ((q7 : Int)))])), cI G (B 1) 1547 M, cI G (B 8) 64 K0, cI G (B 9) 64 K1, cI G (B 10) 64 K2, cI G (B 11) 64 (zU K3 q5 0), cI G (B 12) 64 K4]) (pc := 9) C dX5_tells_9 5 rfl (q5) (by omega) (by omega) (by decide) rfl ?_
  refine z_aload_n (pc := 10) C dX5_tells_10 0 rfl ?_
  refine z_iload_n (pc := 11) C dX5_tells_11 1 rfl ?_
  refine z_iload_n (pc := 12) C dX5_tells_12 2 rfl ?_
  refine z_callV (As := [.int (iI ((t : Int))), .int (iI ((r : Int)))]) (rest := []) (wc := [((B 0), .inr (5, [.ref ((B 1)), .ref ((B 2)), .int (iI ((q0 : Int))), .ref ((B 3)), .int (iI ((q1 : Int))), .ref ((B 4)), .ref ((B 5)), .int (iI ((q2 : Int))), .int (iI ((q3 : Int))), .int (iI ((q4 : Int))), .ref ((B 6)), .ref ((B 7)), .int (iI ((q5 : Int))), .int (iI ((q6 : Int))), .ref ((B 8)), .ref ((B 9)), .ref ((B 10)), .ref ((B 11)), .ref ((B 12)), .int (iI ((q7 : Int)))])), cI G (B 1) 1547 M, cI G (B 11) 64 (zU K3 q5 0)]) (wr := [cI G (B 8) 64 K0, cI G (B 9) 64 K1, cI G (B 10) 64 K2, cI G (B 12) 64 K4]) (fs := [.ref ((B 1)), .ref ((B 2)), .int (iI ((q0 : Int))), .ref ((B 3)), .int (iI ((q1 : Int))), .ref ((B 4)), .ref ((B 5)), .int (iI ((q2 : Int))), .int (iI ((q3 : Int))), .int (iI ((q4 : Int))), .ref ((B 6)), .ref ((B 7)), .int (iI ((q5 : Int))), .int (iI ((q6 : Int))), .ref ((B 8)), .ref ((B 9)), .ref ((B 10)), .ref ((B 11)), .ref ((B 12)), .int (iI ((q7 : Int)))]) (pc := 13) C dX5_tells_13 (k_X5_bit l G B q0 q1 q2 q3 q4 q5 q6 q7 M (zU K3 q5 0) t r s hs hM (by omega) hr (by omega)) gX5_tells_X5_bit ⟨⟨_, rfl⟩, ⟨rfl, rfl⟩, nyX5_bit, ⟨Nat.le_of_ble_eq_true rfl, Nat.le_of_ble_eq_true rfl⟩⟩ rfl zCl5 rfl (fun h => h) rfl (Nat.le_of_ble_eq_true rfl) [0, 1, 5] [2, 3, 4, 6] rfl rfl (by decide) (by decide) (by decide) ⟨Nat.le_of_ble_eq_true rfl, Nat.le_of_ble_eq_true rfl⟩ (fun v w hk => ?_)
  obtain ⟨rfl, rfl⟩ := hk
  refine z_fix (pc2 := 16) (st2 := [.int (iI ((((zvo s.1 (s.2.2.1 4) t r) : Nat) : Int)))]) (ws' := [((B 0), .inr (5, [.ref ((B 1)), .ref ((B 2)), .int (iI ((q0 : Int))), .ref ((B 3)), .int (iI ((q1 : Int))), .ref ((B 4)), .ref ((B 5)), .int (iI ((q2 : Int))), .int (iI ((q3 : Int))), .int (iI ((q4 : Int))), .ref ((B 6)), .ref ((B 7)), .int (iI ((q5 : Int))), .int (iI ((q6 : Int))), .ref ((B 8)), .ref ((B 9)), .ref ((B 10)), .ref ((B 11)), .ref ((B 12)), .int (iI ((q7 : Int)))])), cI G (B 1) 1547 M, cI G (B 8) 64 K0, cI G (B 9) 64 K1, cI G (B 10) 64 K2, cI G (B 11) 64 (zU (zU K3 q5 0) q5 ((zU K3 q5 0) q5 + ((zdo s.1 t r : Nat) : Int))), cI G (B 12) 64 K4]) [4, 5, 0, 1, 2, 6, 3] rfl rfl rfl (by decide) ?_
  refine z_iconst (pc := 16) C dX5_tells_16 ?_
  refine z_icmp_ne (tgt := 22) (pc := 17) C dX5_tells_17 (by decide) ⟨by omega, by omega⟩ (by decide) (fun c17 => ?_) (fun c17 => ?_)
  · exfalso; omega
  · refine z_iconst (pc := 20) C dX5_tells_20 ?_
    exact z_zret (pc := 21) C R0 (by decide) dX5_tells_21 (⟨_, fun j hj => (zU_n hj).trans (zU_n hj), rfl, rfl⟩)

theorem ffX5_tells_7 : zFF wsX5_tells RX5 7 RX5 TX5 20 0 := ⟨by decide +kernel, by decide, by decide +kernel⟩
theorem ffX5_tells_31 : zFF wsX5_tells RX5 31 RX5 TX5 20 14 := ⟨by decide +kernel, by decide, by decide +kernel⟩
theorem ffX5_tells_34 : zFF wsX5_tells RX5 34 RX5 TX5 20 15 := ⟨by decide +kernel, by decide, by decide +kernel⟩
theorem ffX5_tells_37 : zFF wsX5_tells RX5 37 RX5 TX5 20 16 := ⟨by decide +kernel, by decide, by decide +kernel⟩
theorem ffX5_tells_43 : zFF wsX5_tells RX5 43 RX5 TX5 20 18 := ⟨by decide +kernel, by decide, by decide +kernel⟩
set_option maxHeartbeats 4000000 in
set_option maxRecDepth 100000 in
theorem k_X5_tells_i (l : Launch) (G : ZG) (B : Nat → Nat) (q0 q1 q2 q3 q4 q5 q6 q7 : Nat) (M K0 K1 K2 K3 K4 : Nat → Int) (t : Nat) (r : Nat) (s : ZS) (hs : zIs s) (hM : zMs M s) (ht : t ≤ 1500) (hr : 4 ≤ r ∧ r ≤ 40) (h39 : q5 < 39) (hv : ¬ zvo s.1 (s.2.2.1 4) t r = 1) : Kt l G yX5_tells wsX5_tells { frames := 2, cells := 0, slots := 0, locals := 47 } 0 0 False [.ref ((B 0)), .int (iI ((t : Int))), .int (iI ((r : Int)))] [((B 0), .inr (5, [.ref ((B 1)), .ref ((B 2)), .int (iI ((q0 : Int))), .ref ((B 3)), .int (iI ((q1 : Int))), .ref ((B 4)), .ref ((B 5)), .int (iI ((q2 : Int))), .int (iI ((q3 : Int))), .int (iI ((q4 : Int))), .ref ((B 6)), .ref ((B 7)), .int (iI ((q5 : Int))), .int (iI ((q6 : Int))), .ref ((B 8)), .ref ((B 9)), .ref ((B 10)), .ref ((B 11)), .ref ((B 12)), .int (iI ((q7 : Int)))])), cI G (B 1) 1547 M, cI G (B 8) 64 K0, cI G (B 9) 64 K1, cI G (B 10) 64 K2, cI G (B 11) 64 K3, cI G (B 12) 64 K4] (fun v9 w9 => v9 = some (.int (iI 1)) ∧ w9 = [((B 0), .inr (5, [.ref ((B 1)), .ref ((B 2)), .int (iI ((q0 : Int))), .ref ((B 3)), .int (iI ((q1 : Int))), .ref ((B 4)), .ref ((B 5)), .int (iI ((q2 : Int))), .int (iI ((q3 : Int))), .int (iI ((q4 : Int))), .ref ((B 6)), .ref ((B 7)), .int (iI ((q5 : Int))), .int (iI ((q6 : Int))), .ref ((B 8)), .ref ((B 9)), .ref ((B 10)), .ref ((B 11)), .ref ((B 12)), .int (iI ((q7 : Int)))])), cI G (B 1) 1547 M, cI G (B 8) 64 (zU K0 q5 (zit s.1 s.2.2.1 t r).1), cI G (B 9) 64 (zU K1 q5 (((zit s.1 s.2.2.1 t r).2.1 : Nat) : Int)), cI G (B 10) 64 (zU K2 q5 (((zit s.1 s.2.2.1 t r).2.2.1 : Nat) : Int)), cI G (B 11) 64 (zU K3 q5 (((zit s.1 s.2.2.1 t r).2.2.2.1 : Nat) : Int)), cI G (B 12) 64 (zU K4 q5 (((zit s.1 s.2.2.1 t r).2.2.2.2 : Nat) : Int))]) := by
  refine Kt.of (cc := cX5_tells) (nL := 9) (ret := (some .boolean)) (own := RX5) rfl (by decide +kernel) rfl (Nat.le_of_ble_eq_true rfl) ?_
  intro X Y C R0 hin
  show Z l X G Y 9 0 0 0 [(0, .ref ((B 0))), (1, .int (iI ((t : Int)))), (2, .int (iI ((r : Int))))] [] [((B 0), .inr (5, [.ref ((B 1)), .ref ((B 2)), .int (iI ((q0 : Int))), .ref ((B 3)), .int (iI ((q1 : Int))), .ref ((B 4)), .ref ((B 5)), .int (iI ((q2 : Int))), .int (iI ((q3 : Int))), .int (iI ((q4 : Int))), .ref ((B 6)), .ref ((B 7)), .int (iI ((q5 : Int))), .int (iI ((q6 : Int))), .ref ((B 8)), .ref ((B 9)), .ref ((B 10)), .ref ((B 11)), .ref ((B 12)), .int (iI ((q7 : Int)))])), cI G (B 1) 1547 M, cI G (B 8) 64 K0, cI G (B 9) 64 K1, cI G (B 10) 64 K2, cI G (B 11) 64 K3, cI G (B 12) 64 K4]
  obtain ⟨m0, m1, m2, m3, m4, m5, m6, he, hk⟩ := zMs_r hs hM
  have hvb0 := zvo_b s.1 (s.2.2.1 4) t r
  refine z_aload_n (pc := 0) C dX5_tells_0 0 rfl ?_
  refine z_get (pc := 1) C dX5_tells_1 zCl5 ffX5_tells_40 0 rfl rfl ?_
  refine z_aload_n (pc := 4) C dX5_tells_4 0 rfl ?_
  refine z_get (pc := 5) C dX5_tells_5 zCl5 ffX5_tells_109 0 rfl rfl ?_
  refine z_iconst (pc := 8) C dX5_tells_8 ?_
  refine z_iast (ws' := [((B 0), .inr (5, [.ref ((B 1)), .ref ((B 2)), .int (iI ((q0 : Int))), .ref ((B 3)), .int (iI ((q1 : Int))), .ref ((B 4)), .ref ((B 5)), .int (iI ((q2 : Int))), .int (iI ((q3 : Int))), .int (iI ((q4 : Int))), .ref ((B 6)), .ref ((B 7)), .int (iI ((q5 : Int))), .int (iI ((q6 : Int))), .ref ((B 8)), .ref ((B 9)), .ref ((B 10)), .ref ((B 11)), .ref ((B 12)), .int (iI ((q7 : Int)))])), cI G (B 1) 1547 M, cI G (B 8) 64 K0, cI G (B 9) 64 K1, cI G (B 10) 64 K2, cI G (B 11) 64 (zU K3 q5 0), cI G (B 12) 64 K4]) (pc := 9) C dX5_tells_9 5 rfl (q5) (by omega) (by omega) (by decide) rfl ?_
  refine z_aload_n (pc := 10) C dX5_tells_10 0 rfl ?_
  refine z_iload_n (pc := 11) C dX5_tells_11 1 rfl ?_
  refine z_iload_n (pc := 12) C dX5_tells_12 2 rfl ?_
  refine z_callV (As := [.int (iI ((t : Int))), .int (iI ((r : Int)))]) (rest := []) (wc := [((B 0), .inr (5, [.ref ((B 1)), .ref ((B 2)), .int (iI ((q0 : Int))), .ref ((B 3)), .int (iI ((q1 : Int))), .ref ((B 4)), .ref ((B 5)), .int (iI ((q2 : Int))), .int (iI ((q3 : Int))), .int (iI ((q4 : Int))), .ref ((B 6)), .ref ((B 7)), .int (iI ((q5 : Int))), .int (iI ((q6 : Int))), .ref ((B 8)), .ref ((B 9)), .ref ((B 10)), .ref ((B 11)), .ref ((B 12)), .int (iI ((q7 : Int)))])), cI G (B 1) 1547 M, cI G (B 11) 64 (zU K3 q5 0)]) (wr := [cI G (B 8) 64 K0, cI G (B 9) 64 K1, cI G (B 10) 64 K2, cI G (B 12) 64 K4]) (fs := [.ref ((B 1)), .ref ((B 2)), .int (iI ((q0 : Int))), .ref ((B 3)), .int (iI ((q1 : Int))), .ref ((B 4)), .ref ((B 5)), .int (iI ((q2 : Int))), .int (iI ((q3 : Int))), .int (iI ((q4 : Int))), .ref ((B 6)), .ref ((B 7)), .int (iI ((q5 : Int))), .int (iI ((q6 : Int))), .ref ((B 8)), .ref ((B 9)), .ref ((B 10)), .ref ((B 11)), .ref ((B 12)), .int (iI ((q7 : Int)))]) (pc := 13) C dX5_tells_13 (k_X5_bit l G B q0 q1 q2 q3 q4 q5 q6 q7 M (zU K3 q5 0) t r s hs hM (by omega) hr (by omega)) gX5_tells_X5_bit ⟨⟨_, rfl⟩, ⟨rfl, rfl⟩, nyX5_bit, ⟨Nat.le_of_ble_eq_true rfl, Nat.le_of_ble_eq_true rfl⟩⟩ rfl zCl5 rfl (fun h => h) rfl (Nat.le_of_ble_eq_true rfl) [0, 1, 5] [2, 3, 4, 6] rfl rfl (by decide) (by decide) (by decide) ⟨Nat.le_of_ble_eq_true rfl, Nat.le_of_ble_eq_true rfl⟩ (fun v w hk => ?_)
  obtain ⟨rfl, rfl⟩ := hk
  refine z_fix (pc2 := 16) (st2 := [.int (iI ((((zvo s.1 (s.2.2.1 4) t r) : Nat) : Int)))]) (ws' := [((B 0), .inr (5, [.ref ((B 1)), .ref ((B 2)), .int (iI ((q0 : Int))), .ref ((B 3)), .int (iI ((q1 : Int))), .ref ((B 4)), .ref ((B 5)), .int (iI ((q2 : Int))), .int (iI ((q3 : Int))), .int (iI ((q4 : Int))), .ref ((B 6)), .ref ((B 7)), .int (iI ((q5 : Int))), .int (iI ((q6 : Int))), .ref ((B 8)), .ref ((B 9)), .ref ((B 10)), .ref ((B 11)), .ref ((B 12)), .int (iI ((q7 : Int)))])), cI G (B 1) 1547 M, cI G (B 8) 64 K0, cI G (B 9) 64 K1, cI G (B 10) 64 K2, cI G (B 11) 64 (zU (zU K3 q5 0) q5 ((zU K3 q5 0) q5 + ((zdo s.1 t r : Nat) : Int))), cI G (B 12) 64 K4]) [4, 5, 0, 1, 2, 6, 3] rfl rfl rfl (by decide) ?_
  refine z_rowI (F' := (zU K3 q5 ((zdc s.1 t r 0 : Nat) : Int))) (ws' := [((B 0), .inr (5, [.ref ((B 1)), .ref ((B 2)), .int (iI ((q0 : Int))), .ref ((B 3)), .int (iI ((q1 : Int))), .ref ((B 4)), .ref ((B 5)), .int (iI ((q2 : Int))), .int (iI ((q3 : Int))), .int (iI ((q4 : Int))), .ref ((B 6)), .ref ((B 7)), .int (iI ((q5 : Int))), .int (iI ((q6 : Int))), .ref ((B 8)), .ref ((B 9)), .ref ((B 10)), .ref ((B 11)), .ref ((B 12)), .int (iI ((q7 : Int)))])), cI G (B 1) 1547 M, cI G (B 8) 64 K0, cI G (B 9) 64 K1, cI G (B 10) 64 K2, cI G (B 11) 64 (zU K3 q5 ((zdc s.1 t r 0 : Nat) : Int)), cI G (B 12) 64 K4]) 5 rfl (fun j _ => (zU_acc K3 q5 0 _ j).trans (by rw [Int.zero_add]; rfl)) rfl ?_
  refine z_iconst (pc := 16) C dX5_tells_16 ?_
  refine z_icmp_ne (tgt := 22) (pc := 17) C dX5_tells_17 (by decide) ⟨by omega, by omega⟩ (by decide) (fun c17 => ?_) (fun c17 => ?_)
  · have hvb9 := zvo_b s.1 (s.2.2.1 4) (t + 9 * r) r
    have hvb10 := zvo_b s.1 (s.2.2.1 4) (t + 10 * r) r
    have hA8 : (zac s.1 (s.2.2.1 4) t r 8) < 512 := zac_b s.1 (s.2.2.1 4) t r 8
    have hAe := zac_e s.1 (s.2.2.1 4) t r 8
    have hpb := zpar_b (s.2.2.1 2) ((zac s.1 (s.2.2.1 4) t r 8) / 2)
    by_cases hq2 : s.2.2.1 2 = 0
    · have hz9 : zst9 s.2.2.1 = 9 := zst9_0 hq2
      have hko : ((zit s.1 s.2.2.1 t r).1 = 3 ∧ (zac s.1 (s.2.2.1 4) t r 8) / 2 = 0 ∧ (zvo s.1 (s.2.2.1 4) (t + 9 * r) r) = 0) ∨ ((zit s.1 s.2.2.1 t r).1 = 2 ∧ ¬ (zac s.1 (s.2.2.1 4) t r 8) / 2 = 0 ∧ (zvo s.1 (s.2.2.1 4) (t + 9 * r) r) = 0) ∨ ((zit s.1 s.2.2.1 t r).1 = 0 ∧ (zvo s.1 (s.2.2.1 4) (t + 9 * r) r) = 1) := by
        have h := zko_9 hA8 hAe hvb9
        unfold zit
        rw [hz9, hq2]
        exact h
      have hw1 : (zit s.1 s.2.2.1 t r).2.1 = (zac s.1 (s.2.2.1 4) t r 8) / 2 := by
        unfold zit
        rw [hz9]
        show ((zac s.1 (s.2.2.1 4) t r 8) + (zvo s.1 (s.2.2.1 4) (t + 9 * r) r) * 2 ^ 9) / 2 % 256 = _
        omega
      refine z_aload_n (pc := 22) C dX5_tells_22 0 rfl ?_
      refine z_get (pc := 23) C dX5_tells_23 zCl5 ffX5_tells_7 0 rfl rfl ?_
      refine z_iconst (pc := 26) C dX5_tells_26 ?_
      refine z_iald (pc := 27) C dX5_tells_27 1 rfl (2) (rfl) (by omega) (by decide) ?_
      refine z_if_le (tgt := 36) (pc := 28) C dX5_tells_28 (by decide) ⟨by omega, by omega⟩ (fun c28 => ?_) (fun c28 => ?_)
      · refine z_bipush (pc := 36) C dX5_tells_36 (by decide +kernel) ?_
        refine z_istore_n (lv' := [(3, .int (iI 10)), (0, .ref ((B 0))), (1, .int (iI ((t : Int)))), (2, .int (iI ((r : Int))))]) (pc := 38) C dX5_tells_38 (by decide) rfl ?_
        refine z_iconst (pc := 39) C dX5_tells_39 ?_
        refine z_topi (y := (((zac s.1 (s.2.2.1 4) t r 0 / 2) : Nat) : Int)) (by rw [show zac s.1 (s.2.2.1 4) t r 0 = 0 from rfl]; rfl) ?_
        refine z_istore (lv' := [(4, .int (iI ((((zac s.1 (s.2.2.1 4) t r 0 / 2) : Nat) : Int)))), (3, .int (iI 10)), (0, .ref ((B 0))), (1, .int (iI ((t : Int)))), (2, .int (iI ((r : Int))))]) (pc := 40) C dX5_tells_40 (by decide) rfl ?_
        refine z_iconst (pc := 42) C dX5_tells_42 ?_
        refine z_istore (lv' := [(5, .int (iI 1)), (4, .int (iI ((((zac s.1 (s.2.2.1 4) t r 0 / 2) : Nat) : Int)))), (3, .int (iI 10)), (0, .ref ((B 0))), (1, .int (iI ((t : Int)))), (2, .int (iI ((r : Int))))]) (pc := 43) C dX5_tells_43 (by decide) rfl ?_
        have L45 : ∀ (n : Nat) (i : Nat), 8 < i + n → i ≤ 8 → Z l X G Y 9 0 0 45 [(0, .ref ((B 0))), (1, .int (iI ((t : Int)))), (2, .int (iI ((r : Int)))), (3, .int (iI 10)), (4, .int (iI ((((zac s.1 (s.2.2.1 4) t r i / 2) : Nat) : Int)))), (5, .int (iI ((((i + 1) : Nat) : Int))))] [] [((B 0), .inr (5, [.ref ((B 1)), .ref ((B 2)), .int (iI ((q0 : Int))), .ref ((B 3)), .int (iI ((q1 : Int))), .ref ((B 4)), .ref ((B 5)), .int (iI ((q2 : Int))), .int (iI ((q3 : Int))), .int (iI ((q4 : Int))), .ref ((B 6)), .ref ((B 7)), .int (iI ((q5 : Int))), .int (iI ((q6 : Int))), .ref ((B 8)), .ref ((B 9)), .ref ((B 10)), .ref ((B 11)), .ref ((B 12)), .int (iI ((q7 : Int)))])), cI G (B 1) 1547 M, cI G (B 8) 64 K0, cI G (B 9) 64 K1, cI G (B 10) 64 K2, cI G (B 11) 64 (zU K3 q5 ((zdc s.1 t r i : Nat) : Int)), cI G (B 12) 64 K4] := by
          intro n
          induction n with
          | zero => intro i hn hi; exact absurd hn (by omega)
          | succ n ih =>
            intro i hn hi
            refine z_iload (pc := 45) C dX5_tells_45 5 rfl ?_
            refine z_bipush (pc := 47) C dX5_tells_47 (by decide +kernel) ?_
            refine z_icmp_ge (tgt := 79) (pc := 49) C dX5_tells_49 (by decide) ⟨by omega, by omega⟩ (by decide) (fun c49 => ?_) (fun c49 => ?_)
            · obtain rfl : i = 8 := by omega
              refine z_aload_n (pc := 79) C dX5_tells_79 0 rfl ?_
              refine z_get (pc := 80) C dX5_tells_80 zCl5 ffX5_tells_7 0 rfl rfl ?_
              refine z_iconst (pc := 83) C dX5_tells_83 ?_
              refine z_iald (pc := 84) C dX5_tells_84 1 rfl (2) (rfl) (by omega) (by decide) ?_
              refine z_if_le (tgt := 102) (pc := 85) C dX5_tells_85 (by decide) ⟨by omega, by omega⟩ (fun c85 => ?_) (fun c85 => ?_)
              · refine z_iconst (pc := 102) C dX5_tells_102 ?_
                refine z_istore (lv' := [(5, .int (iI 0)), (0, .ref ((B 0))), (1, .int (iI ((t : Int)))), (2, .int (iI ((r : Int)))), (3, .int (iI 10)), (4, .int (iI ((((zac s.1 (s.2.2.1 4) t r 8 / 2) : Nat) : Int))))]) (pc := 103) C dX5_tells_103 (by decide) rfl ?_
                refine z_aload_n (pc := 105) C dX5_tells_105 1 rfl ?_
                refine z_iload_n (pc := 106) C dX5_tells_106 2 rfl ?_
                refine z_iload_n (pc := 107) C dX5_tells_107 4 rfl ?_
                refine z_iconst (pc := 108) C dX5_tells_108 ?_
                refine z_isub (pc := 109) C dX5_tells_109 ?_
                refine z_iload_n (pc := 110) C dX5_tells_110 3 rfl ?_
                refine z_imul (pc := 111) C dX5_tells_111 ?_
                refine z_iadd (pc := 112) C dX5_tells_112 ?_
                refine z_iload_n (pc := 113) C dX5_tells_113 3 rfl ?_
                refine z_callV (As := [.int (iI (((t : Int) + ((10 - 1) * (r : Int))))), .int (iI ((r : Int)))]) (rest := []) (wc := [((B 0), .inr (5, [.ref ((B 1)), .ref ((B 2)), .int (iI ((q0 : Int))), .ref ((B 3)), .int (iI ((q1 : Int))), .ref ((B 4)), .ref ((B 5)), .int (iI ((q2 : Int))), .int (iI ((q3 : Int))), .int (iI ((q4 : Int))), .ref ((B 6)), .ref ((B 7)), .int (iI ((q5 : Int))), .int (iI ((q6 : Int))), .ref ((B 8)), .ref ((B 9)), .ref ((B 10)), .ref ((B 11)), .ref ((B 12)), .int (iI ((q7 : Int)))])), cI G (B 1) 1547 M, cI G (B 11) 64 (zU K3 q5 ((zdc s.1 t r 8 : Nat) : Int))]) (wr := [cI G (B 8) 64 K0, cI G (B 9) 64 K1, cI G (B 10) 64 K2, cI G (B 12) 64 K4]) (fs := [.ref ((B 1)), .ref ((B 2)), .int (iI ((q0 : Int))), .ref ((B 3)), .int (iI ((q1 : Int))), .ref ((B 4)), .ref ((B 5)), .int (iI ((q2 : Int))), .int (iI ((q3 : Int))), .int (iI ((q4 : Int))), .ref ((B 6)), .ref ((B 7)), .int (iI ((q5 : Int))), .int (iI ((q6 : Int))), .ref ((B 8)), .ref ((B 9)), .ref ((B 10)), .ref ((B 11)), .ref ((B 12)), .int (iI ((q7 : Int)))]) (pc := 114) C dX5_tells_114 (k_X5_bit l G B q0 q1 q2 q3 q4 q5 q6 q7 M (zU K3 q5 ((zdc s.1 t r 8 : Nat) : Int)) (t + 9 * r) r s hs hM (by omega) hr (by omega)) gX5_tells_X5_bit ⟨⟨_, rfl⟩, ⟨rfl, rfl⟩, nyX5_bit, ⟨Nat.le_of_ble_eq_true rfl, Nat.le_of_ble_eq_true rfl⟩⟩ rfl zCl5 rfl (fun h => h) rfl (Nat.le_of_ble_eq_true rfl) [0, 1, 5] [2, 3, 4, 6] rfl rfl (by decide) (by decide) (by decide) ⟨Nat.le_of_ble_eq_true rfl, Nat.le_of_ble_eq_true rfl⟩ (fun v w hk => ?_)
                obtain ⟨rfl, rfl⟩ := hk
                refine z_fix (pc2 := 117) (st2 := [.int (iI ((((zvo s.1 (s.2.2.1 4) (t + 9 * r) r) : Nat) : Int)))]) (ws' := [((B 0), .inr (5, [.ref ((B 1)), .ref ((B 2)), .int (iI ((q0 : Int))), .ref ((B 3)), .int (iI ((q1 : Int))), .ref ((B 4)), .ref ((B 5)), .int (iI ((q2 : Int))), .int (iI ((q3 : Int))), .int (iI ((q4 : Int))), .ref ((B 6)), .ref ((B 7)), .int (iI ((q5 : Int))), .int (iI ((q6 : Int))), .ref ((B 8)), .ref ((B 9)), .ref ((B 10)), .ref ((B 11)), .ref ((B 12)), .int (iI ((q7 : Int)))])), cI G (B 1) 1547 M, cI G (B 8) 64 K0, cI G (B 9) 64 K1, cI G (B 10) 64 K2, cI G (B 11) 64 (zU (zU K3 q5 ((zdc s.1 t r 8 : Nat) : Int)) q5 ((zU K3 q5 ((zdc s.1 t r 8 : Nat) : Int)) q5 + ((zdo s.1 (t + 9 * r) r : Nat) : Int))), cI G (B 12) 64 K4]) [4, 5, 0, 1, 2, 6, 3] rfl rfl rfl (by decide) ?_
                refine z_rowI (F' := (zU K3 q5 ((zdc s.1 t r 9 : Nat) : Int))) (ws' := [((B 0), .inr (5, [.ref ((B 1)), .ref ((B 2)), .int (iI ((q0 : Int))), .ref ((B 3)), .int (iI ((q1 : Int))), .ref ((B 4)), .ref ((B 5)), .int (iI ((q2 : Int))), .int (iI ((q3 : Int))), .int (iI ((q4 : Int))), .ref ((B 6)), .ref ((B 7)), .int (iI ((q5 : Int))), .int (iI ((q6 : Int))), .ref ((B 8)), .ref ((B 9)), .ref ((B 10)), .ref ((B 11)), .ref ((B 12)), .int (iI ((q7 : Int)))])), cI G (B 1) 1547 M, cI G (B 8) 64 K0, cI G (B 9) 64 K1, cI G (B 10) 64 K2, cI G (B 11) 64 (zU K3 q5 ((zdc s.1 t r 9 : Nat) : Int)), cI G (B 12) 64 K4]) 5 rfl (fun j _ => zU_acc K3 q5 _ _ j) rfl ?_
                refine z_topi (y := (((zvo s.1 (s.2.2.1 4) (t + 9 * r) r) : Nat) : Int)) (rfl) ?_
                refine z_istore (lv' := [(6, .int (iI ((((zvo s.1 (s.2.2.1 4) (t + 9 * r) r) : Nat) : Int)))), (5, .int (iI 0)), (0, .ref ((B 0))), (1, .int (iI ((t : Int)))), (2, .int (iI ((r : Int)))), (3, .int (iI 10)), (4, .int (iI ((((zac s.1 (s.2.2.1 4) t r 8 / 2) : Nat) : Int))))]) (pc := 117) C dX5_tells_117 (by decide) rfl ?_
                refine z_aload_n (pc := 119) C dX5_tells_119 2 rfl ?_
                refine z_get (pc := 120) C dX5_tells_120 zCl5 ffX5_tells_7 0 rfl rfl ?_
                refine z_iconst (pc := 123) C dX5_tells_123 ?_
                refine z_iald (pc := 124) C dX5_tells_124 1 rfl (2) (rfl) (by omega) (by decide) ?_
                refine z_if_le (tgt := 143) (pc := 125) C dX5_tells_125 (by decide) ⟨by omega, by omega⟩ (fun c125 => ?_) (fun c125 => ?_)
                · refine z_iconst (pc := 143) C dX5_tells_143 ?_
                  refine z_istore (lv' := [(7, .int (iI 0)), (6, .int (iI ((((zvo s.1 (s.2.2.1 4) (t + 9 * r) r) : Nat) : Int)))), (5, .int (iI 0)), (0, .ref ((B 0))), (1, .int (iI ((t : Int)))), (2, .int (iI ((r : Int)))), (3, .int (iI 10)), (4, .int (iI ((((zac s.1 (s.2.2.1 4) t r 8 / 2) : Nat) : Int))))]) (pc := 144) C dX5_tells_144 (by decide) rfl ?_
                  refine z_iload (pc := 146) C dX5_tells_146 7 rfl ?_
                  refine z_if_ne (tgt := 165) (pc := 148) C dX5_tells_148 (by decide) ⟨by omega, by omega⟩ (fun c148 => ?_) (fun c148 => ?_)
                  · refine z_iconst (pc := 165) C dX5_tells_165 ?_
                    refine z_istore (lv' := [(8, .int (iI 0)), (7, .int (iI 0)), (6, .int (iI ((((zvo s.1 (s.2.2.1 4) (t + 9 * r) r) : Nat) : Int)))), (5, .int (iI 0)), (0, .ref ((B 0))), (1, .int (iI ((t : Int)))), (2, .int (iI ((r : Int)))), (3, .int (iI 10)), (4, .int (iI ((((zac s.1 (s.2.2.1 4) t r 8 / 2) : Nat) : Int))))]) (pc := 166) C dX5_tells_166 (by decide) rfl ?_
                    refine z_rowI (F' := (zU K3 q5 (((zit s.1 s.2.2.1 t r).2.2.2.1 : Nat) : Int))) (ws' := [((B 0), .inr (5, [.ref ((B 1)), .ref ((B 2)), .int (iI ((q0 : Int))), .ref ((B 3)), .int (iI ((q1 : Int))), .ref ((B 4)), .ref ((B 5)), .int (iI ((q2 : Int))), .int (iI ((q3 : Int))), .int (iI ((q4 : Int))), .ref ((B 6)), .ref ((B 7)), .int (iI ((q5 : Int))), .int (iI ((q6 : Int))), .ref ((B 8)), .ref ((B 9)), .ref ((B 10)), .ref ((B 11)), .ref ((B 12)), .int (iI ((q7 : Int)))])), cI G (B 1) 1547 M, cI G (B 8) 64 K0, cI G (B 9) 64 K1, cI G (B 10) 64 K2, cI G (B 11) 64 (zU K3 q5 (((zit s.1 s.2.2.1 t r).2.2.2.1 : Nat) : Int)), cI G (B 12) 64 K4]) 5 rfl (fun j _ => by rw [show (zit s.1 s.2.2.1 t r).2.2.2.1 = zdc s.1 t r (zst9 s.2.2.1) from rfl, hz9]) rfl ?_
                    refine z_aload_n (pc := 168) C dX5_tells_168 4 rfl ?_
                    refine z_get (pc := 169) C dX5_tells_169 zCl5 ffX5_tells_31 0 rfl rfl ?_
                    refine z_aload_n (pc := 172) C dX5_tells_172 4 rfl ?_
                    refine z_get (pc := 173) C dX5_tells_173 zCl5 ffX5_tells_109 0 rfl rfl ?_
                    refine z_iload (pc := 176) C dX5_tells_176 0 rfl ?_
                    refine z_if_eq (tgt := 185) (pc := 178) C dX5_tells_178 (by decide) (by decide) (fun c178 => ?_) (fun c178 => ?_)
                    · refine z_iload (pc := 185) C dX5_tells_185 2 rfl ?_
                      refine z_if_ne (tgt := 194) (pc := 187) C dX5_tells_187 (by decide) ⟨by omega, by omega⟩ (fun c187 => ?_) (fun c187 => ?_)
                      · refine z_iload (pc := 194) C dX5_tells_194 1 rfl ?_
                        refine z_if_eq (tgt := 203) (pc := 196) C dX5_tells_196 (by decide) (by decide) (fun c196 => ?_) (fun c196 => ?_)
                        · refine z_iconst (pc := 203) C dX5_tells_203 ?_
                          refine z_topi (y := (zit s.1 s.2.2.1 t r).1) (by omega) ?_
                          refine z_iast (ws' := [((B 0), .inr (5, [.ref ((B 1)), .ref ((B 2)), .int (iI ((q0 : Int))), .ref ((B 3)), .int (iI ((q1 : Int))), .ref ((B 4)), .ref ((B 5)), .int (iI ((q2 : Int))), .int (iI ((q3 : Int))), .int (iI ((q4 : Int))), .ref ((B 6)), .ref ((B 7)), .int (iI ((q5 : Int))), .int (iI ((q6 : Int))), .ref ((B 8)), .ref ((B 9)), .ref ((B 10)), .ref ((B 11)), .ref ((B 12)), .int (iI ((q7 : Int)))])), cI G (B 1) 1547 M, cI G (B 8) 64 (zU K0 q5 ((zit s.1 s.2.2.1 t r).1)), cI G (B 9) 64 K1, cI G (B 10) 64 K2, cI G (B 11) 64 (zU K3 q5 (((zit s.1 s.2.2.1 t r).2.2.2.1 : Nat) : Int)), cI G (B 12) 64 K4]) (pc := 204) C dX5_tells_204 2 rfl (q5) (by omega) (by omega) (by decide) rfl ?_
                          refine z_aload_n (pc := 205) C dX5_tells_205 4 rfl ?_
                          refine z_get (pc := 206) C dX5_tells_206 zCl5 ffX5_tells_34 0 rfl rfl ?_
                          refine z_aload_n (pc := 209) C dX5_tells_209 4 rfl ?_
                          refine z_get (pc := 210) C dX5_tells_210 zCl5 ffX5_tells_109 0 rfl rfl ?_
                          refine z_iload (pc := 213) C dX5_tells_213 8 rfl ?_
                          refine z_topi (y := (((zit s.1 s.2.2.1 t r).2.1 : Nat) : Int)) (by rw [hw1]) ?_
                          refine z_iast (ws' := [((B 0), .inr (5, [.ref ((B 1)), .ref ((B 2)), .int (iI ((q0 : Int))), .ref ((B 3)), .int (iI ((q1 : Int))), .ref ((B 4)), .ref ((B 5)), .int (iI ((q2 : Int))), .int (iI ((q3 : Int))), .int (iI ((q4 : Int))), .ref ((B 6)), .ref ((B 7)), .int (iI ((q5 : Int))), .int (iI ((q6 : Int))), .ref ((B 8)), .ref ((B 9)), .ref ((B 10)), .ref ((B 11)), .ref ((B 12)), .int (iI ((q7 : Int)))])), cI G (B 1) 1547 M, cI G (B 8) 64 (zU K0 q5 ((zit s.1 s.2.2.1 t r).1)), cI G (B 9) 64 (zU K1 q5 (((zit s.1 s.2.2.1 t r).2.1 : Nat) : Int)), cI G (B 10) 64 K2, cI G (B 11) 64 (zU K3 q5 (((zit s.1 s.2.2.1 t r).2.2.2.1 : Nat) : Int)), cI G (B 12) 64 K4]) (pc := 215) C dX5_tells_215 3 rfl (q5) (by omega) (by omega) (by decide) rfl ?_
                          refine z_aload_n (pc := 216) C dX5_tells_216 4 rfl ?_
                          refine z_get (pc := 217) C dX5_tells_217 zCl5 ffX5_tells_37 0 rfl rfl ?_
                          refine z_aload_n (pc := 220) C dX5_tells_220 4 rfl ?_
                          refine z_get (pc := 221) C dX5_tells_221 zCl5 ffX5_tells_109 0 rfl rfl ?_
                          refine z_iload_n (pc := 224) C dX5_tells_224 5 rfl ?_
                          refine z_topi (y := (((zit s.1 s.2.2.1 t r).2.2.1 : Nat) : Int)) (rfl) ?_
                          refine z_iast (ws' := [((B 0), .inr (5, [.ref ((B 1)), .ref ((B 2)), .int (iI ((q0 : Int))), .ref ((B 3)), .int (iI ((q1 : Int))), .ref ((B 4)), .ref ((B 5)), .int (iI ((q2 : Int))), .int (iI ((q3 : Int))), .int (iI ((q4 : Int))), .ref ((B 6)), .ref ((B 7)), .int (iI ((q5 : Int))), .int (iI ((q6 : Int))), .ref ((B 8)), .ref ((B 9)), .ref ((B 10)), .ref ((B 11)), .ref ((B 12)), .int (iI ((q7 : Int)))])), cI G (B 1) 1547 M, cI G (B 8) 64 (zU K0 q5 ((zit s.1 s.2.2.1 t r).1)), cI G (B 9) 64 (zU K1 q5 (((zit s.1 s.2.2.1 t r).2.1 : Nat) : Int)), cI G (B 10) 64 (zU K2 q5 (((zit s.1 s.2.2.1 t r).2.2.1 : Nat) : Int)), cI G (B 11) 64 (zU K3 q5 (((zit s.1 s.2.2.1 t r).2.2.2.1 : Nat) : Int)), cI G (B 12) 64 K4]) (pc := 225) C dX5_tells_225 4 rfl (q5) (by omega) (by omega) (by decide) rfl ?_
                          refine z_aload_n (pc := 226) C dX5_tells_226 4 rfl ?_
                          refine z_get (pc := 227) C dX5_tells_227 zCl5 ffX5_tells_43 0 rfl rfl ?_
                          refine z_aload_n (pc := 230) C dX5_tells_230 4 rfl ?_
                          refine z_get (pc := 231) C dX5_tells_231 zCl5 ffX5_tells_109 0 rfl rfl ?_
                          refine z_iload_n (pc := 234) C dX5_tells_234 5 rfl ?_
                          refine z_iload_n (pc := 235) C dX5_tells_235 7 rfl ?_
                          refine z_iconst (pc := 236) C dX5_tells_236 ?_
                          refine z_isub (pc := 237) C dX5_tells_237 ?_
                          refine z_iload_n (pc := 238) C dX5_tells_238 6 rfl ?_
                          refine z_imul (pc := 239) C dX5_tells_239 ?_
                          refine z_iadd (pc := 240) C dX5_tells_240 ?_
                          refine z_iconst (pc := 241) C dX5_tells_241 ?_
                          refine z_iload_n (pc := 242) C dX5_tells_242 6 rfl ?_
                          refine z_imul (pc := 243) C dX5_tells_243 ?_
                          refine z_iconst (pc := 244) C dX5_tells_244 ?_
                          refine z_idiv (pc := 245) C dX5_tells_245 ⟨by omega, by omega⟩ (by decide) ?_
                          refine z_iadd (pc := 246) C dX5_tells_246 ?_
                          refine z_topi (y := (((zit s.1 s.2.2.1 t r).2.2.2.2 : Nat) : Int)) (by show _ = ((zlast s.2.2.1 t r : Nat) : Int); unfold zlast; rw [hz9]; omega) ?_
                          refine z_iast (ws' := [((B 0), .inr (5, [.ref ((B 1)), .ref ((B 2)), .int (iI ((q0 : Int))), .ref ((B 3)), .int (iI ((q1 : Int))), .ref ((B 4)), .ref ((B 5)), .int (iI ((q2 : Int))), .int (iI ((q3 : Int))), .int (iI ((q4 : Int))), .ref ((B 6)), .ref ((B 7)), .int (iI ((q5 : Int))), .int (iI ((q6 : Int))), .ref ((B 8)), .ref ((B 9)), .ref ((B 10)), .ref ((B 11)), .ref ((B 12)), .int (iI ((q7 : Int)))])), cI G (B 1) 1547 M, cI G (B 8) 64 (zU K0 q5 ((zit s.1 s.2.2.1 t r).1)), cI G (B 9) 64 (zU K1 q5 (((zit s.1 s.2.2.1 t r).2.1 : Nat) : Int)), cI G (B 10) 64 (zU K2 q5 (((zit s.1 s.2.2.1 t r).2.2.1 : Nat) : Int)), cI G (B 11) 64 (zU K3 q5 (((zit s.1 s.2.2.1 t r).2.2.2.1 : Nat) : Int)), cI G (B 12) 64 (zU K4 q5 (((zit s.1 s.2.2.1 t r).2.2.2.2 : Nat) : Int))]) (pc := 247) C dX5_tells_247 6 rfl (q5) (by omega) (by omega) (by decide) rfl ?_
                          refine z_iconst (pc := 248) C dX5_tells_248 ?_
                          exact z_zret (pc := 249) C R0 (by decide) dX5_tells_249 (⟨rfl, rfl⟩)
                        · exfalso; omega
                      · refine z_iconst (pc := 190) C dX5_tells_190 ?_
                        refine z_goto (tgt := 204) (pc := 191) C dX5_tells_191 (by decide) ?_
                        refine z_topi (y := (zit s.1 s.2.2.1 t r).1) (by omega) ?_
                        refine z_iast (ws' := [((B 0), .inr (5, [.ref ((B 1)), .ref ((B 2)), .int (iI ((q0 : Int))), .ref ((B 3)), .int (iI ((q1 : Int))), .ref ((B 4)), .ref ((B 5)), .int (iI ((q2 : Int))), .int (iI ((q3 : Int))), .int (iI ((q4 : Int))), .ref ((B 6)), .ref ((B 7)), .int (iI ((q5 : Int))), .int (iI ((q6 : Int))), .ref ((B 8)), .ref ((B 9)), .ref ((B 10)), .ref ((B 11)), .ref ((B 12)), .int (iI ((q7 : Int)))])), cI G (B 1) 1547 M, cI G (B 8) 64 (zU K0 q5 ((zit s.1 s.2.2.1 t r).1)), cI G (B 9) 64 K1, cI G (B 10) 64 K2, cI G (B 11) 64 (zU K3 q5 (((zit s.1 s.2.2.1 t r).2.2.2.1 : Nat) : Int)), cI G (B 12) 64 K4]) (pc := 204) C dX5_tells_204 2 rfl (q5) (by omega) (by omega) (by decide) rfl ?_
                        refine z_aload_n (pc := 205) C dX5_tells_205 4 rfl ?_
                        refine z_get (pc := 206) C dX5_tells_206 zCl5 ffX5_tells_34 0 rfl rfl ?_
                        refine z_aload_n (pc := 209) C dX5_tells_209 4 rfl ?_
                        refine z_get (pc := 210) C dX5_tells_210 zCl5 ffX5_tells_109 0 rfl rfl ?_
                        refine z_iload (pc := 213) C dX5_tells_213 8 rfl ?_
                        refine z_topi (y := (((zit s.1 s.2.2.1 t r).2.1 : Nat) : Int)) (by rw [hw1]) ?_
                        refine z_iast (ws' := [((B 0), .inr (5, [.ref ((B 1)), .ref ((B 2)), .int (iI ((q0 : Int))), .ref ((B 3)), .int (iI ((q1 : Int))), .ref ((B 4)), .ref ((B 5)), .int (iI ((q2 : Int))), .int (iI ((q3 : Int))), .int (iI ((q4 : Int))), .ref ((B 6)), .ref ((B 7)), .int (iI ((q5 : Int))), .int (iI ((q6 : Int))), .ref ((B 8)), .ref ((B 9)), .ref ((B 10)), .ref ((B 11)), .ref ((B 12)), .int (iI ((q7 : Int)))])), cI G (B 1) 1547 M, cI G (B 8) 64 (zU K0 q5 ((zit s.1 s.2.2.1 t r).1)), cI G (B 9) 64 (zU K1 q5 (((zit s.1 s.2.2.1 t r).2.1 : Nat) : Int)), cI G (B 10) 64 K2, cI G (B 11) 64 (zU K3 q5 (((zit s.1 s.2.2.1 t r).2.2.2.1 : Nat) : Int)), cI G (B 12) 64 K4]) (pc := 215) C dX5_tells_215 3 rfl (q5) (by omega) (by omega) (by decide) rfl ?_
                        refine z_aload_n (pc := 216) C dX5_tells_216 4 rfl ?_
                        refine z_get (pc := 217) C dX5_tells_217 zCl5 ffX5_tells_37 0 rfl rfl ?_
                        refine z_aload_n (pc := 220) C dX5_tells_220 4 rfl ?_
                        refine z_get (pc := 221) C dX5_tells_221 zCl5 ffX5_tells_109 0 rfl rfl ?_
                        refine z_iload_n (pc := 224) C dX5_tells_224 5 rfl ?_
                        refine z_topi (y := (((zit s.1 s.2.2.1 t r).2.2.1 : Nat) : Int)) (rfl) ?_
                        refine z_iast (ws' := [((B 0), .inr (5, [.ref ((B 1)), .ref ((B 2)), .int (iI ((q0 : Int))), .ref ((B 3)), .int (iI ((q1 : Int))), .ref ((B 4)), .ref ((B 5)), .int (iI ((q2 : Int))), .int (iI ((q3 : Int))), .int (iI ((q4 : Int))), .ref ((B 6)), .ref ((B 7)), .int (iI ((q5 : Int))), .int (iI ((q6 : Int))), .ref ((B 8)), .ref ((B 9)), .ref ((B 10)), .ref ((B 11)), .ref ((B 12)), .int (iI ((q7 : Int)))])), cI G (B 1) 1547 M, cI G (B 8) 64 (zU K0 q5 ((zit s.1 s.2.2.1 t r).1)), cI G (B 9) 64 (zU K1 q5 (((zit s.1 s.2.2.1 t r).2.1 : Nat) : Int)), cI G (B 10) 64 (zU K2 q5 (((zit s.1 s.2.2.1 t r).2.2.1 : Nat) : Int)), cI G (B 11) 64 (zU K3 q5 (((zit s.1 s.2.2.1 t r).2.2.2.1 : Nat) : Int)), cI G (B 12) 64 K4]) (pc := 225) C dX5_tells_225 4 rfl (q5) (by omega) (by omega) (by decide) rfl ?_
                        refine z_aload_n (pc := 226) C dX5_tells_226 4 rfl ?_
                        refine z_get (pc := 227) C dX5_tells_227 zCl5 ffX5_tells_43 0 rfl rfl ?_
                        refine z_aload_n (pc := 230) C dX5_tells_230 4 rfl ?_
                        refine z_get (pc := 231) C dX5_tells_231 zCl5 ffX5_tells_109 0 rfl rfl ?_
                        refine z_iload_n (pc := 234) C dX5_tells_234 5 rfl ?_
                        refine z_iload_n (pc := 235) C dX5_tells_235 7 rfl ?_
                        refine z_iconst (pc := 236) C dX5_tells_236 ?_
                        refine z_isub (pc := 237) C dX5_tells_237 ?_
                        refine z_iload_n (pc := 238) C dX5_tells_238 6 rfl ?_
                        refine z_imul (pc := 239) C dX5_tells_239 ?_
                        refine z_iadd (pc := 240) C dX5_tells_240 ?_
                        refine z_iconst (pc := 241) C dX5_tells_241 ?_
                        refine z_iload_n (pc := 242) C dX5_tells_242 6 rfl ?_
                        refine z_imul (pc := 243) C dX5_tells_243 ?_
                        refine z_iconst (pc := 244) C dX5_tells_244 ?_
                        refine z_idiv (pc := 245) C dX5_tells_245 ⟨by omega, by omega⟩ (by decide) ?_
                        refine z_iadd (pc := 246) C dX5_tells_246 ?_
                        refine z_topi (y := (((zit s.1 s.2.2.1 t r).2.2.2.2 : Nat) : Int)) (by show _ = ((zlast s.2.2.1 t r : Nat) : Int); unfold zlast; rw [hz9]; omega) ?_
                        refine z_iast (ws' := [((B 0), .inr (5, [.ref ((B 1)), .ref ((B 2)), .int (iI ((q0 : Int))), .ref ((B 3)), .int (iI ((q1 : Int))), .ref ((B 4)), .ref ((B 5)), .int (iI ((q2 : Int))), .int (iI ((q3 : Int))), .int (iI ((q4 : Int))), .ref ((B 6)), .ref ((B 7)), .int (iI ((q5 : Int))), .int (iI ((q6 : Int))), .ref ((B 8)), .ref ((B 9)), .ref ((B 10)), .ref ((B 11)), .ref ((B 12)), .int (iI ((q7 : Int)))])), cI G (B 1) 1547 M, cI G (B 8) 64 (zU K0 q5 ((zit s.1 s.2.2.1 t r).1)), cI G (B 9) 64 (zU K1 q5 (((zit s.1 s.2.2.1 t r).2.1 : Nat) : Int)), cI G (B 10) 64 (zU K2 q5 (((zit s.1 s.2.2.1 t r).2.2.1 : Nat) : Int)), cI G (B 11) 64 (zU K3 q5 (((zit s.1 s.2.2.1 t r).2.2.2.1 : Nat) : Int)), cI G (B 12) 64 (zU K4 q5 (((zit s.1 s.2.2.1 t r).2.2.2.2 : Nat) : Int))]) (pc := 247) C dX5_tells_247 6 rfl (q5) (by omega) (by omega) (by decide) rfl ?_
                        refine z_iconst (pc := 248) C dX5_tells_248 ?_
                        exact z_zret (pc := 249) C R0 (by decide) dX5_tells_249 (⟨rfl, rfl⟩)
                    · exfalso; omega
                  · refine z_iload (pc := 151) C dX5_tells_151 2 rfl ?_
                    refine z_if_ne (tgt := 165) (pc := 153) C dX5_tells_153 (by decide) (by decide) (fun c153 => ?_) (fun c153 => ?_)
                    · exfalso; omega
                    · refine z_iload (pc := 156) C dX5_tells_156 1 rfl ?_
                      refine z_if_ne (tgt := 165) (pc := 158) C dX5_tells_158 (by decide) ⟨by omega, by omega⟩ (fun c158 => ?_) (fun c158 => ?_)
                      · refine z_iconst (pc := 165) C dX5_tells_165 ?_
                        refine z_istore (lv' := [(8, .int (iI 0)), (7, .int (iI 0)), (6, .int (iI ((((zvo s.1 (s.2.2.1 4) (t + 9 * r) r) : Nat) : Int)))), (5, .int (iI 0)), (0, .ref ((B 0))), (1, .int (iI ((t : Int)))), (2, .int (iI ((r : Int)))), (3, .int (iI 10)), (4, .int (iI ((((zac s.1 (s.2.2.1 4) t r 8 / 2) : Nat) : Int))))]) (pc := 166) C dX5_tells_166 (by decide) rfl ?_
                        refine z_rowI (F' := (zU K3 q5 (((zit s.1 s.2.2.1 t r).2.2.2.1 : Nat) : Int))) (ws' := [((B 0), .inr (5, [.ref ((B 1)), .ref ((B 2)), .int (iI ((q0 : Int))), .ref ((B 3)), .int (iI ((q1 : Int))), .ref ((B 4)), .ref ((B 5)), .int (iI ((q2 : Int))), .int (iI ((q3 : Int))), .int (iI ((q4 : Int))), .ref ((B 6)), .ref ((B 7)), .int (iI ((q5 : Int))), .int (iI ((q6 : Int))), .ref ((B 8)), .ref ((B 9)), .ref ((B 10)), .ref ((B 11)), .ref ((B 12)), .int (iI ((q7 : Int)))])), cI G (B 1) 1547 M, cI G (B 8) 64 K0, cI G (B 9) 64 K1, cI G (B 10) 64 K2, cI G (B 11) 64 (zU K3 q5 (((zit s.1 s.2.2.1 t r).2.2.2.1 : Nat) : Int)), cI G (B 12) 64 K4]) 5 rfl (fun j _ => by rw [show (zit s.1 s.2.2.1 t r).2.2.2.1 = zdc s.1 t r (zst9 s.2.2.1) from rfl, hz9]) rfl ?_
                        refine z_aload_n (pc := 168) C dX5_tells_168 4 rfl ?_
                        refine z_get (pc := 169) C dX5_tells_169 zCl5 ffX5_tells_31 0 rfl rfl ?_
                        refine z_aload_n (pc := 172) C dX5_tells_172 4 rfl ?_
                        refine z_get (pc := 173) C dX5_tells_173 zCl5 ffX5_tells_109 0 rfl rfl ?_
                        refine z_iload (pc := 176) C dX5_tells_176 0 rfl ?_
                        refine z_if_eq (tgt := 185) (pc := 178) C dX5_tells_178 (by decide) (by decide) (fun c178 => ?_) (fun c178 => ?_)
                        · refine z_iload (pc := 185) C dX5_tells_185 2 rfl ?_
                          refine z_if_ne (tgt := 194) (pc := 187) C dX5_tells_187 (by decide) ⟨by omega, by omega⟩ (fun c187 => ?_) (fun c187 => ?_)
                          · refine z_iload (pc := 194) C dX5_tells_194 1 rfl ?_
                            refine z_if_eq (tgt := 203) (pc := 196) C dX5_tells_196 (by decide) (by decide) (fun c196 => ?_) (fun c196 => ?_)
                            · refine z_iconst (pc := 203) C dX5_tells_203 ?_
                              refine z_topi (y := (zit s.1 s.2.2.1 t r).1) (by omega) ?_
                              refine z_iast (ws' := [((B 0), .inr (5, [.ref ((B 1)), .ref ((B 2)), .int (iI ((q0 : Int))), .ref ((B 3)), .int (iI ((q1 : Int))), .ref ((B 4)), .ref ((B 5)), .int (iI ((q2 : Int))), .int (iI ((q3 : Int))), .int (iI ((q4 : Int))), .ref ((B 6)), .ref ((B 7)), .int (iI ((q5 : Int))), .int (iI ((q6 : Int))), .ref ((B 8)), .ref ((B 9)), .ref ((B 10)), .ref ((B 11)), .ref ((B 12)), .int (iI ((q7 : Int)))])), cI G (B 1) 1547 M, cI G (B 8) 64 (zU K0 q5 ((zit s.1 s.2.2.1 t r).1)), cI G (B 9) 64 K1, cI G (B 10) 64 K2, cI G (B 11) 64 (zU K3 q5 (((zit s.1 s.2.2.1 t r).2.2.2.1 : Nat) : Int)), cI G (B 12) 64 K4]) (pc := 204) C dX5_tells_204 2 rfl (q5) (by omega) (by omega) (by decide) rfl ?_
                              refine z_aload_n (pc := 205) C dX5_tells_205 4 rfl ?_
                              refine z_get (pc := 206) C dX5_tells_206 zCl5 ffX5_tells_34 0 rfl rfl ?_
                              refine z_aload_n (pc := 209) C dX5_tells_209 4 rfl ?_
                              refine z_get (pc := 210) C dX5_tells_210 zCl5 ffX5_tells_109 0 rfl rfl ?_
                              refine z_iload (pc := 213) C dX5_tells_213 8 rfl ?_
                              refine z_topi (y := (((zit s.1 s.2.2.1 t r).2.1 : Nat) : Int)) (by rw [hw1]) ?_
                              refine z_iast (ws' := [((B 0), .inr (5, [.ref ((B 1)), .ref ((B 2)), .int (iI ((q0 : Int))), .ref ((B 3)), .int (iI ((q1 : Int))), .ref ((B 4)), .ref ((B 5)), .int (iI ((q2 : Int))), .int (iI ((q3 : Int))), .int (iI ((q4 : Int))), .ref ((B 6)), .ref ((B 7)), .int (iI ((q5 : Int))), .int (iI ((q6 : Int))), .ref ((B 8)), .ref ((B 9)), .ref ((B 10)), .ref ((B 11)), .ref ((B 12)), .int (iI ((q7 : Int)))])), cI G (B 1) 1547 M, cI G (B 8) 64 (zU K0 q5 ((zit s.1 s.2.2.1 t r).1)), cI G (B 9) 64 (zU K1 q5 (((zit s.1 s.2.2.1 t r).2.1 : Nat) : Int)), cI G (B 10) 64 K2, cI G (B 11) 64 (zU K3 q5 (((zit s.1 s.2.2.1 t r).2.2.2.1 : Nat) : Int)), cI G (B 12) 64 K4]) (pc := 215) C dX5_tells_215 3 rfl (q5) (by omega) (by omega) (by decide) rfl ?_
                              refine z_aload_n (pc := 216) C dX5_tells_216 4 rfl ?_
                              refine z_get (pc := 217) C dX5_tells_217 zCl5 ffX5_tells_37 0 rfl rfl ?_
                              refine z_aload_n (pc := 220) C dX5_tells_220 4 rfl ?_
                              refine z_get (pc := 221) C dX5_tells_221 zCl5 ffX5_tells_109 0 rfl rfl ?_
                              refine z_iload_n (pc := 224) C dX5_tells_224 5 rfl ?_
                              refine z_topi (y := (((zit s.1 s.2.2.1 t r).2.2.1 : Nat) : Int)) (rfl) ?_
                              refine z_iast (ws' := [((B 0), .inr (5, [.ref ((B 1)), .ref ((B 2)), .int (iI ((q0 : Int))), .ref ((B 3)), .int (iI ((q1 : Int))), .ref ((B 4)), .ref ((B 5)), .int (iI ((q2 : Int))), .int (iI ((q3 : Int))), .int (iI ((q4 : Int))), .ref ((B 6)), .ref ((B 7)), .int (iI ((q5 : Int))), .int (iI ((q6 : Int))), .ref ((B 8)), .ref ((B 9)), .ref ((B 10)), .ref ((B 11)), .ref ((B 12)), .int (iI ((q7 : Int)))])), cI G (B 1) 1547 M, cI G (B 8) 64 (zU K0 q5 ((zit s.1 s.2.2.1 t r).1)), cI G (B 9) 64 (zU K1 q5 (((zit s.1 s.2.2.1 t r).2.1 : Nat) : Int)), cI G (B 10) 64 (zU K2 q5 (((zit s.1 s.2.2.1 t r).2.2.1 : Nat) : Int)), cI G (B 11) 64 (zU K3 q5 (((zit s.1 s.2.2.1 t r).2.2.2.1 : Nat) : Int)), cI G (B 12) 64 K4]) (pc := 225) C dX5_tells_225 4 rfl (q5) (by omega) (by omega) (by decide) rfl ?_
                              refine z_aload_n (pc := 226) C dX5_tells_226 4 rfl ?_
                              refine z_get (pc := 227) C dX5_tells_227 zCl5 ffX5_tells_43 0 rfl rfl ?_
                              refine z_aload_n (pc := 230) C dX5_tells_230 4 rfl ?_
                              refine z_get (pc := 231) C dX5_tells_231 zCl5 ffX5_tells_109 0 rfl rfl ?_
                              refine z_iload_n (pc := 234) C dX5_tells_234 5 rfl ?_
                              refine z_iload_n (pc := 235) C dX5_tells_235 7 rfl ?_
                              refine z_iconst (pc := 236) C dX5_tells_236 ?_
                              refine z_isub (pc := 237) C dX5_tells_237 ?_
                              refine z_iload_n (pc := 238) C dX5_tells_238 6 rfl ?_
                              refine z_imul (pc := 239) C dX5_tells_239 ?_
                              refine z_iadd (pc := 240) C dX5_tells_240 ?_
                              refine z_iconst (pc := 241) C dX5_tells_241 ?_
                              refine z_iload_n (pc := 242) C dX5_tells_242 6 rfl ?_
                              refine z_imul (pc := 243) C dX5_tells_243 ?_
                              refine z_iconst (pc := 244) C dX5_tells_244 ?_
                              refine z_idiv (pc := 245) C dX5_tells_245 ⟨by omega, by omega⟩ (by decide) ?_
                              refine z_iadd (pc := 246) C dX5_tells_246 ?_
                              refine z_topi (y := (((zit s.1 s.2.2.1 t r).2.2.2.2 : Nat) : Int)) (by show _ = ((zlast s.2.2.1 t r : Nat) : Int); unfold zlast; rw [hz9]; omega) ?_
                              refine z_iast (ws' := [((B 0), .inr (5, [.ref ((B 1)), .ref ((B 2)), .int (iI ((q0 : Int))), .ref ((B 3)), .int (iI ((q1 : Int))), .ref ((B 4)), .ref ((B 5)), .int (iI ((q2 : Int))), .int (iI ((q3 : Int))), .int (iI ((q4 : Int))), .ref ((B 6)), .ref ((B 7)), .int (iI ((q5 : Int))), .int (iI ((q6 : Int))), .ref ((B 8)), .ref ((B 9)), .ref ((B 10)), .ref ((B 11)), .ref ((B 12)), .int (iI ((q7 : Int)))])), cI G (B 1) 1547 M, cI G (B 8) 64 (zU K0 q5 ((zit s.1 s.2.2.1 t r).1)), cI G (B 9) 64 (zU K1 q5 (((zit s.1 s.2.2.1 t r).2.1 : Nat) : Int)), cI G (B 10) 64 (zU K2 q5 (((zit s.1 s.2.2.1 t r).2.2.1 : Nat) : Int)), cI G (B 11) 64 (zU K3 q5 (((zit s.1 s.2.2.1 t r).2.2.2.1 : Nat) : Int)), cI G (B 12) 64 (zU K4 q5 (((zit s.1 s.2.2.1 t r).2.2.2.2 : Nat) : Int))]) (pc := 247) C dX5_tells_247 6 rfl (q5) (by omega) (by omega) (by decide) rfl ?_
                              refine z_iconst (pc := 248) C dX5_tells_248 ?_
                              exact z_zret (pc := 249) C R0 (by decide) dX5_tells_249 (⟨rfl, rfl⟩)
                            · exfalso; omega
                          · refine z_iconst (pc := 190) C dX5_tells_190 ?_
                            refine z_goto (tgt := 204) (pc := 191) C dX5_tells_191 (by decide) ?_
                            refine z_topi (y := (zit s.1 s.2.2.1 t r).1) (by omega) ?_
                            refine z_iast (ws' := [((B 0), .inr (5, [.ref ((B 1)), .ref ((B 2)), .int (iI ((q0 : Int))), .ref ((B 3)), .int (iI ((q1 : Int))), .ref ((B 4)), .ref ((B 5)), .int (iI ((q2 : Int))), .int (iI ((q3 : Int))), .int (iI ((q4 : Int))), .ref ((B 6)), .ref ((B 7)), .int (iI ((q5 : Int))), .int (iI ((q6 : Int))), .ref ((B 8)), .ref ((B 9)), .ref ((B 10)), .ref ((B 11)), .ref ((B 12)), .int (iI ((q7 : Int)))])), cI G (B 1) 1547 M, cI G (B 8) 64 (zU K0 q5 ((zit s.1 s.2.2.1 t r).1)), cI G (B 9) 64 K1, cI G (B 10) 64 K2, cI G (B 11) 64 (zU K3 q5 (((zit s.1 s.2.2.1 t r).2.2.2.1 : Nat) : Int)), cI G (B 12) 64 K4]) (pc := 204) C dX5_tells_204 2 rfl (q5) (by omega) (by omega) (by decide) rfl ?_
                            refine z_aload_n (pc := 205) C dX5_tells_205 4 rfl ?_
                            refine z_get (pc := 206) C dX5_tells_206 zCl5 ffX5_tells_34 0 rfl rfl ?_
                            refine z_aload_n (pc := 209) C dX5_tells_209 4 rfl ?_
                            refine z_get (pc := 210) C dX5_tells_210 zCl5 ffX5_tells_109 0 rfl rfl ?_
                            refine z_iload (pc := 213) C dX5_tells_213 8 rfl ?_
                            refine z_topi (y := (((zit s.1 s.2.2.1 t r).2.1 : Nat) : Int)) (by rw [hw1]) ?_
                            refine z_iast (ws' := [((B 0), .inr (5, [.ref ((B 1)), .ref ((B 2)), .int (iI ((q0 : Int))), .ref ((B 3)), .int (iI ((q1 : Int))), .ref ((B 4)), .ref ((B 5)), .int (iI ((q2 : Int))), .int (iI ((q3 : Int))), .int (iI ((q4 : Int))), .ref ((B 6)), .ref ((B 7)), .int (iI ((q5 : Int))), .int (iI ((q6 : Int))), .ref ((B 8)), .ref ((B 9)), .ref ((B 10)), .ref ((B 11)), .ref ((B 12)), .int (iI ((q7 : Int)))])), cI G (B 1) 1547 M, cI G (B 8) 64 (zU K0 q5 ((zit s.1 s.2.2.1 t r).1)), cI G (B 9) 64 (zU K1 q5 (((zit s.1 s.2.2.1 t r).2.1 : Nat) : Int)), cI G (B 10) 64 K2, cI G (B 11) 64 (zU K3 q5 (((zit s.1 s.2.2.1 t r).2.2.2.1 : Nat) : Int)), cI G (B 12) 64 K4]) (pc := 215) C dX5_tells_215 3 rfl (q5) (by omega) (by omega) (by decide) rfl ?_
                            refine z_aload_n (pc := 216) C dX5_tells_216 4 rfl ?_
                            refine z_get (pc := 217) C dX5_tells_217 zCl5 ffX5_tells_37 0 rfl rfl ?_
                            refine z_aload_n (pc := 220) C dX5_tells_220 4 rfl ?_
                            refine z_get (pc := 221) C dX5_tells_221 zCl5 ffX5_tells_109 0 rfl rfl ?_
                            refine z_iload_n (pc := 224) C dX5_tells_224 5 rfl ?_
                            refine z_topi (y := (((zit s.1 s.2.2.1 t r).2.2.1 : Nat) : Int)) (rfl) ?_
                            refine z_iast (ws' := [((B 0), .inr (5, [.ref ((B 1)), .ref ((B 2)), .int (iI ((q0 : Int))), .ref ((B 3)), .int (iI ((q1 : Int))), .ref ((B 4)), .ref ((B 5)), .int (iI ((q2 : Int))), .int (iI ((q3 : Int))), .int (iI ((q4 : Int))), .ref ((B 6)), .ref ((B 7)), .int (iI ((q5 : Int))), .int (iI ((q6 : Int))), .ref ((B 8)), .ref ((B 9)), .ref ((B 10)), .ref ((B 11)), .ref ((B 12)), .int (iI ((q7 : Int)))])), cI G (B 1) 1547 M, cI G (B 8) 64 (zU K0 q5 ((zit s.1 s.2.2.1 t r).1)), cI G (B 9) 64 (zU K1 q5 (((zit s.1 s.2.2.1 t r).2.1 : Nat) : Int)), cI G (B 10) 64 (zU K2 q5 (((zit s.1 s.2.2.1 t r).2.2.1 : Nat) : Int)), cI G (B 11) 64 (zU K3 q5 (((zit s.1 s.2.2.1 t r).2.2.2.1 : Nat) : Int)), cI G (B 12) 64 K4]) (pc := 225) C dX5_tells_225 4 rfl (q5) (by omega) (by omega) (by decide) rfl ?_
                            refine z_aload_n (pc := 226) C dX5_tells_226 4 rfl ?_
                            refine z_get (pc := 227) C dX5_tells_227 zCl5 ffX5_tells_43 0 rfl rfl ?_
                            refine z_aload_n (pc := 230) C dX5_tells_230 4 rfl ?_
                            refine z_get (pc := 231) C dX5_tells_231 zCl5 ffX5_tells_109 0 rfl rfl ?_
                            refine z_iload_n (pc := 234) C dX5_tells_234 5 rfl ?_
                            refine z_iload_n (pc := 235) C dX5_tells_235 7 rfl ?_
                            refine z_iconst (pc := 236) C dX5_tells_236 ?_
                            refine z_isub (pc := 237) C dX5_tells_237 ?_
                            refine z_iload_n (pc := 238) C dX5_tells_238 6 rfl ?_
                            refine z_imul (pc := 239) C dX5_tells_239 ?_
                            refine z_iadd (pc := 240) C dX5_tells_240 ?_
                            refine z_iconst (pc := 241) C dX5_tells_241 ?_
                            refine z_iload_n (pc := 242) C dX5_tells_242 6 rfl ?_
                            refine z_imul (pc := 243) C dX5_tells_243 ?_
                            refine z_iconst (pc := 244) C dX5_tells_244 ?_
                            refine z_idiv (pc := 245) C dX5_tells_245 ⟨by omega, by omega⟩ (by decide) ?_
                            refine z_iadd (pc := 246) C dX5_tells_246 ?_
                            refine z_topi (y := (((zit s.1 s.2.2.1 t r).2.2.2.2 : Nat) : Int)) (by show _ = ((zlast s.2.2.1 t r : Nat) : Int); unfold zlast; rw [hz9]; omega) ?_
                            refine z_iast (ws' := [((B 0), .inr (5, [.ref ((B 1)), .ref ((B 2)), .int (iI ((q0 : Int))), .ref ((B 3)), .int (iI ((q1 : Int))), .ref ((B 4)), .ref ((B 5)), .int (iI ((q2 : Int))), .int (iI ((q3 : Int))), .int (iI ((q4 : Int))), .ref ((B 6)), .ref ((B 7)), .int (iI ((q5 : Int))), .int (iI ((q6 : Int))), .ref ((B 8)), .ref ((B 9)), .ref ((B 10)), .ref ((B 11)), .ref ((B 12)), .int (iI ((q7 : Int)))])), cI G (B 1) 1547 M, cI G (B 8) 64 (zU K0 q5 ((zit s.1 s.2.2.1 t r).1)), cI G (B 9) 64 (zU K1 q5 (((zit s.1 s.2.2.1 t r).2.1 : Nat) : Int)), cI G (B 10) 64 (zU K2 q5 (((zit s.1 s.2.2.1 t r).2.2.1 : Nat) : Int)), cI G (B 11) 64 (zU K3 q5 (((zit s.1 s.2.2.1 t r).2.2.2.1 : Nat) : Int)), cI G (B 12) 64 (zU K4 q5 (((zit s.1 s.2.2.1 t r).2.2.2.2 : Nat) : Int))]) (pc := 247) C dX5_tells_247 6 rfl (q5) (by omega) (by omega) (by decide) rfl ?_
                            refine z_iconst (pc := 248) C dX5_tells_248 ?_
                            exact z_zret (pc := 249) C R0 (by decide) dX5_tells_249 (⟨rfl, rfl⟩)
                        · exfalso; omega
                      · refine z_iconst (pc := 161) C dX5_tells_161 ?_
                        refine z_goto (tgt := 166) (pc := 162) C dX5_tells_162 (by decide) ?_
                        refine z_istore (lv' := [(8, .int (iI 1)), (7, .int (iI 0)), (6, .int (iI ((((zvo s.1 (s.2.2.1 4) (t + 9 * r) r) : Nat) : Int)))), (5, .int (iI 0)), (0, .ref ((B 0))), (1, .int (iI ((t : Int)))), (2, .int (iI ((r : Int)))), (3, .int (iI 10)), (4, .int (iI ((((zac s.1 (s.2.2.1 4) t r 8 / 2) : Nat) : Int))))]) (pc := 166) C dX5_tells_166 (by decide) rfl ?_
                        refine z_rowI (F' := (zU K3 q5 (((zit s.1 s.2.2.1 t r).2.2.2.1 : Nat) : Int))) (ws' := [((B 0), .inr (5, [.ref ((B 1)), .ref ((B 2)), .int (iI ((q0 : Int))), .ref ((B 3)), .int (iI ((q1 : Int))), .ref ((B 4)), .ref ((B 5)), .int (iI ((q2 : Int))), .int (iI ((q3 : Int))), .int (iI ((q4 : Int))), .ref ((B 6)), .ref ((B 7)), .int (iI ((q5 : Int))), .int (iI ((q6 : Int))), .ref ((B 8)), .ref ((B 9)), .ref ((B 10)), .ref ((B 11)), .ref ((B 12)), .int (iI ((q7 : Int)))])), cI G (B 1) 1547 M, cI G (B 8) 64 K0, cI G (B 9) 64 K1, cI G (B 10) 64 K2, cI G (B 11) 64 (zU K3 q5 (((zit s.1 s.2.2.1 t r).2.2.2.1 : Nat) : Int)), cI G (B 12) 64 K4]) 5 rfl (fun j _ => by rw [show (zit s.1 s.2.2.1 t r).2.2.2.1 = zdc s.1 t r (zst9 s.2.2.1) from rfl, hz9]) rfl ?_
                        refine z_aload_n (pc := 168) C dX5_tells_168 4 rfl ?_
                        refine z_get (pc := 169) C dX5_tells_169 zCl5 ffX5_tells_31 0 rfl rfl ?_
                        refine z_aload_n (pc := 172) C dX5_tells_172 4 rfl ?_
                        refine z_get (pc := 173) C dX5_tells_173 zCl5 ffX5_tells_109 0 rfl rfl ?_
                        refine z_iload (pc := 176) C dX5_tells_176 0 rfl ?_
                        refine z_if_eq (tgt := 185) (pc := 178) C dX5_tells_178 (by decide) (by decide) (fun c178 => ?_) (fun c178 => ?_)
                        · exfalso; omega
                        · refine z_iconst (pc := 181) C dX5_tells_181 ?_
                          refine z_goto (tgt := 204) (pc := 182) C dX5_tells_182 (by decide) ?_
                          refine z_topi (y := (zit s.1 s.2.2.1 t r).1) (by omega) ?_
                          refine z_iast (ws' := [((B 0), .inr (5, [.ref ((B 1)), .ref ((B 2)), .int (iI ((q0 : Int))), .ref ((B 3)), .int (iI ((q1 : Int))), .ref ((B 4)), .ref ((B 5)), .int (iI ((q2 : Int))), .int (iI ((q3 : Int))), .int (iI ((q4 : Int))), .ref ((B 6)), .ref ((B 7)), .int (iI ((q5 : Int))), .int (iI ((q6 : Int))), .ref ((B 8)), .ref ((B 9)), .ref ((B 10)), .ref ((B 11)), .ref ((B 12)), .int (iI ((q7 : Int)))])), cI G (B 1) 1547 M, cI G (B 8) 64 (zU K0 q5 ((zit s.1 s.2.2.1 t r).1)), cI G (B 9) 64 K1, cI G (B 10) 64 K2, cI G (B 11) 64 (zU K3 q5 (((zit s.1 s.2.2.1 t r).2.2.2.1 : Nat) : Int)), cI G (B 12) 64 K4]) (pc := 204) C dX5_tells_204 2 rfl (q5) (by omega) (by omega) (by decide) rfl ?_
                          refine z_aload_n (pc := 205) C dX5_tells_205 4 rfl ?_
                          refine z_get (pc := 206) C dX5_tells_206 zCl5 ffX5_tells_34 0 rfl rfl ?_
                          refine z_aload_n (pc := 209) C dX5_tells_209 4 rfl ?_
                          refine z_get (pc := 210) C dX5_tells_210 zCl5 ffX5_tells_109 0 rfl rfl ?_
                          refine z_iload (pc := 213) C dX5_tells_213 8 rfl ?_
                          refine z_topi (y := (((zit s.1 s.2.2.1 t r).2.1 : Nat) : Int)) (by rw [hw1]) ?_
                          refine z_iast (ws' := [((B 0), .inr (5, [.ref ((B 1)), .ref ((B 2)), .int (iI ((q0 : Int))), .ref ((B 3)), .int (iI ((q1 : Int))), .ref ((B 4)), .ref ((B 5)), .int (iI ((q2 : Int))), .int (iI ((q3 : Int))), .int (iI ((q4 : Int))), .ref ((B 6)), .ref ((B 7)), .int (iI ((q5 : Int))), .int (iI ((q6 : Int))), .ref ((B 8)), .ref ((B 9)), .ref ((B 10)), .ref ((B 11)), .ref ((B 12)), .int (iI ((q7 : Int)))])), cI G (B 1) 1547 M, cI G (B 8) 64 (zU K0 q5 ((zit s.1 s.2.2.1 t r).1)), cI G (B 9) 64 (zU K1 q5 (((zit s.1 s.2.2.1 t r).2.1 : Nat) : Int)), cI G (B 10) 64 K2, cI G (B 11) 64 (zU K3 q5 (((zit s.1 s.2.2.1 t r).2.2.2.1 : Nat) : Int)), cI G (B 12) 64 K4]) (pc := 215) C dX5_tells_215 3 rfl (q5) (by omega) (by omega) (by decide) rfl ?_
                          refine z_aload_n (pc := 216) C dX5_tells_216 4 rfl ?_
                          refine z_get (pc := 217) C dX5_tells_217 zCl5 ffX5_tells_37 0 rfl rfl ?_
                          refine z_aload_n (pc := 220) C dX5_tells_220 4 rfl ?_
                          refine z_get (pc := 221) C dX5_tells_221 zCl5 ffX5_tells_109 0 rfl rfl ?_
                          refine z_iload_n (pc := 224) C dX5_tells_224 5 rfl ?_
                          refine z_topi (y := (((zit s.1 s.2.2.1 t r).2.2.1 : Nat) : Int)) (rfl) ?_
                          refine z_iast (ws' := [((B 0), .inr (5, [.ref ((B 1)), .ref ((B 2)), .int (iI ((q0 : Int))), .ref ((B 3)), .int (iI ((q1 : Int))), .ref ((B 4)), .ref ((B 5)), .int (iI ((q2 : Int))), .int (iI ((q3 : Int))), .int (iI ((q4 : Int))), .ref ((B 6)), .ref ((B 7)), .int (iI ((q5 : Int))), .int (iI ((q6 : Int))), .ref ((B 8)), .ref ((B 9)), .ref ((B 10)), .ref ((B 11)), .ref ((B 12)), .int (iI ((q7 : Int)))])), cI G (B 1) 1547 M, cI G (B 8) 64 (zU K0 q5 ((zit s.1 s.2.2.1 t r).1)), cI G (B 9) 64 (zU K1 q5 (((zit s.1 s.2.2.1 t r).2.1 : Nat) : Int)), cI G (B 10) 64 (zU K2 q5 (((zit s.1 s.2.2.1 t r).2.2.1 : Nat) : Int)), cI G (B 11) 64 (zU K3 q5 (((zit s.1 s.2.2.1 t r).2.2.2.1 : Nat) : Int)), cI G (B 12) 64 K4]) (pc := 225) C dX5_tells_225 4 rfl (q5) (by omega) (by omega) (by decide) rfl ?_
                          refine z_aload_n (pc := 226) C dX5_tells_226 4 rfl ?_
                          refine z_get (pc := 227) C dX5_tells_227 zCl5 ffX5_tells_43 0 rfl rfl ?_
                          refine z_aload_n (pc := 230) C dX5_tells_230 4 rfl ?_
                          refine z_get (pc := 231) C dX5_tells_231 zCl5 ffX5_tells_109 0 rfl rfl ?_
                          refine z_iload_n (pc := 234) C dX5_tells_234 5 rfl ?_
                          refine z_iload_n (pc := 235) C dX5_tells_235 7 rfl ?_
                          refine z_iconst (pc := 236) C dX5_tells_236 ?_
                          refine z_isub (pc := 237) C dX5_tells_237 ?_
                          refine z_iload_n (pc := 238) C dX5_tells_238 6 rfl ?_
                          refine z_imul (pc := 239) C dX5_tells_239 ?_
                          refine z_iadd (pc := 240) C dX5_tells_240 ?_
                          refine z_iconst (pc := 241) C dX5_tells_241 ?_
                          refine z_iload_n (pc := 242) C dX5_tells_242 6 rfl ?_
                          refine z_imul (pc := 243) C dX5_tells_243 ?_
                          refine z_iconst (pc := 244) C dX5_tells_244 ?_
                          refine z_idiv (pc := 245) C dX5_tells_245 ⟨by omega, by omega⟩ (by decide) ?_
                          refine z_iadd (pc := 246) C dX5_tells_246 ?_
                          refine z_topi (y := (((zit s.1 s.2.2.1 t r).2.2.2.2 : Nat) : Int)) (by show _ = ((zlast s.2.2.1 t r : Nat) : Int); unfold zlast; rw [hz9]; omega) ?_
                          refine z_iast (ws' := [((B 0), .inr (5, [.ref ((B 1)), .ref ((B 2)), .int (iI ((q0 : Int))), .ref ((B 3)), .int (iI ((q1 : Int))), .ref ((B 4)), .ref ((B 5)), .int (iI ((q2 : Int))), .int (iI ((q3 : Int))), .int (iI ((q4 : Int))), .ref ((B 6)), .ref ((B 7)), .int (iI ((q5 : Int))), .int (iI ((q6 : Int))), .ref ((B 8)), .ref ((B 9)), .ref ((B 10)), .ref ((B 11)), .ref ((B 12)), .int (iI ((q7 : Int)))])), cI G (B 1) 1547 M, cI G (B 8) 64 (zU K0 q5 ((zit s.1 s.2.2.1 t r).1)), cI G (B 9) 64 (zU K1 q5 (((zit s.1 s.2.2.1 t r).2.1 : Nat) : Int)), cI G (B 10) 64 (zU K2 q5 (((zit s.1 s.2.2.1 t r).2.2.1 : Nat) : Int)), cI G (B 11) 64 (zU K3 q5 (((zit s.1 s.2.2.1 t r).2.2.2.1 : Nat) : Int)), cI G (B 12) 64 (zU K4 q5 (((zit s.1 s.2.2.1 t r).2.2.2.2 : Nat) : Int))]) (pc := 247) C dX5_tells_247 6 rfl (q5) (by omega) (by omega) (by decide) rfl ?_
                          refine z_iconst (pc := 248) C dX5_tells_248 ?_
                          exact z_zret (pc := 249) C R0 (by decide) dX5_tells_249 (⟨rfl, rfl⟩)
                · exfalso; omega
              · exfalso; omega
            · have hm : (i + 1) * r ≤ 8 * 40 := Nat.mul_le_mul (by omega) hr.2
              have hvb := zvo_b s.1 (s.2.2.1 4) (t + (i + 1) * r) r
              have hai := zac_b s.1 (s.2.2.1 4) t r i
              have hac := zac_2048 s.1 (s.2.2.1 4) t r (n := i) (by omega)
              refine z_iload (pc := 52) C dX5_tells_52 4 rfl ?_
              refine z_aload_n (pc := 54) C dX5_tells_54 0 rfl ?_
              refine z_iload_n (pc := 55) C dX5_tells_55 1 rfl ?_
              refine z_iload (pc := 56) C dX5_tells_56 5 rfl ?_
              refine z_iload_n (pc := 58) C dX5_tells_58 2 rfl ?_
              refine z_imul (pc := 59) C dX5_tells_59 ?_
              refine z_iadd (pc := 60) C dX5_tells_60 ?_
              refine z_iload_n (pc := 61) C dX5_tells_61 2 rfl ?_
              refine z_callV (As := [.int (iI (((t : Int) + ((((i + 1) : Nat) : Int) * (r : Int))))), .int (iI ((r : Int)))]) (rest := [.int (iI ((((zac s.1 (s.2.2.1 4) t r i / 2) : Nat) : Int)))]) (wc := [((B 0), .inr (5, [.ref ((B 1)), .ref ((B 2)), .int (iI ((q0 : Int))), .ref ((B 3)), .int (iI ((q1 : Int))), .ref ((B 4)), .ref ((B 5)), .int (iI ((q2 : Int))), .int (iI ((q3 : Int))), .int (iI ((q4 : Int))), .ref ((B 6)), .ref ((B 7)), .int (iI ((q5 : Int))), .int (iI ((q6 : Int))), .ref ((B 8)), .ref ((B 9)), .ref ((B 10)), .ref ((B 11)), .ref ((B 12)), .int (iI ((q7 : Int)))])), cI G (B 1) 1547 M, cI G (B 11) 64 (zU K3 q5 ((zdc s.1 t r i : Nat) : Int))]) (wr := [cI G (B 8) 64 K0, cI G (B 9) 64 K1, cI G (B 10) 64 K2, cI G (B 12) 64 K4]) (fs := [.ref ((B 1)), .ref ((B 2)), .int (iI ((q0 : Int))), .ref ((B 3)), .int (iI ((q1 : Int))), .ref ((B 4)), .ref ((B 5)), .int (iI ((q2 : Int))), .int (iI ((q3 : Int))), .int (iI ((q4 : Int))), .ref ((B 6)), .ref ((B 7)), .int (iI ((q5 : Int))), .int (iI ((q6 : Int))), .ref ((B 8)), .ref ((B 9)), .ref ((B 10)), .ref ((B 11)), .ref ((B 12)), .int (iI ((q7 : Int)))]) (pc := 62) C dX5_tells_62 (k_X5_bit l G B q0 q1 q2 q3 q4 q5 q6 q7 M (zU K3 q5 ((zdc s.1 t r i : Nat) : Int)) (t + (i + 1) * r) r s hs hM (by omega) hr (by omega)) gX5_tells_X5_bit ⟨⟨_, rfl⟩, ⟨rfl, rfl⟩, nyX5_bit, ⟨Nat.le_of_ble_eq_true rfl, Nat.le_of_ble_eq_true rfl⟩⟩ rfl zCl5 rfl (fun h => h) rfl (Nat.le_of_ble_eq_true rfl) [0, 1, 5] [2, 3, 4, 6] rfl rfl (by decide) (by decide) (by decide) ⟨Nat.le_of_ble_eq_true rfl, Nat.le_of_ble_eq_true rfl⟩ (fun v w hk => ?_)
              obtain ⟨rfl, rfl⟩ := hk
              refine z_fix (pc2 := 65) (st2 := [.int (iI ((((zvo s.1 (s.2.2.1 4) (t + (i + 1) * r) r) : Nat) : Int))), .int (iI ((((zac s.1 (s.2.2.1 4) t r i / 2) : Nat) : Int)))]) (ws' := [((B 0), .inr (5, [.ref ((B 1)), .ref ((B 2)), .int (iI ((q0 : Int))), .ref ((B 3)), .int (iI ((q1 : Int))), .ref ((B 4)), .ref ((B 5)), .int (iI ((q2 : Int))), .int (iI ((q3 : Int))), .int (iI ((q4 : Int))), .ref ((B 6)), .ref ((B 7)), .int (iI ((q5 : Int))), .int (iI ((q6 : Int))), .ref ((B 8)), .ref ((B 9)), .ref ((B 10)), .ref ((B 11)), .ref ((B 12)), .int (iI ((q7 : Int)))])), cI G (B 1) 1547 M, cI G (B 8) 64 K0, cI G (B 9) 64 K1, cI G (B 10) 64 K2, cI G (B 11) 64 (zU (zU K3 q5 ((zdc s.1 t r i : Nat) : Int)) q5 ((zU K3 q5 ((zdc s.1 t r i : Nat) : Int)) q5 + ((zdo s.1 (t + (i + 1) * r) r : Nat) : Int))), cI G (B 12) 64 K4]) [4, 5, 0, 1, 2, 6, 3] rfl rfl rfl (by decide) ?_
              refine z_rowI (F' := (zU K3 q5 ((zdc s.1 t r (i + 1) : Nat) : Int))) (ws' := [((B 0), .inr (5, [.ref ((B 1)), .ref ((B 2)), .int (iI ((q0 : Int))), .ref ((B 3)), .int (iI ((q1 : Int))), .ref ((B 4)), .ref ((B 5)), .int (iI ((q2 : Int))), .int (iI ((q3 : Int))), .int (iI ((q4 : Int))), .ref ((B 6)), .ref ((B 7)), .int (iI ((q5 : Int))), .int (iI ((q6 : Int))), .ref ((B 8)), .ref ((B 9)), .ref ((B 10)), .ref ((B 11)), .ref ((B 12)), .int (iI ((q7 : Int)))])), cI G (B 1) 1547 M, cI G (B 8) 64 K0, cI G (B 9) 64 K1, cI G (B 10) 64 K2, cI G (B 11) 64 (zU K3 q5 ((zdc s.1 t r (i + 1) : Nat) : Int)), cI G (B 12) 64 K4]) 5 rfl (fun j _ => zU_acc K3 q5 _ _ j) rfl ?_
              refine z_iload (pc := 65) C dX5_tells_65 5 rfl ?_
              refine z_iconst (pc := 67) C dX5_tells_67 ?_
              refine z_isub (pc := 68) C dX5_tells_68 ?_
              refine z_topi (y := (i : Int)) (by omega) ?_
              refine z_ishl (pc := 69) C dX5_tells_69 (by omega) ⟨by omega, by omega⟩ (by rw [Int.toNat_natCast]; exact Int.le_trans (zshb hvb (by omega)) (by decide)) ?_
              refine z_topi (y := (((zvo s.1 (s.2.2.1 4) (t + (i + 1) * r) r : Nat) : Int) * 2 ^ i)) (by rw [Int.toNat_natCast]) ?_
              refine z_ior (pc := 70) C dX5_tells_70 ⟨by omega, by omega⟩ ⟨zshb0, Int.le_trans (zshb hvb (by omega)) (by decide)⟩ ?_
              refine z_topi (y := (((zac s.1 (s.2.2.1 4) t r (i + 1) / 2) : Nat) : Int)) (zac_h _ _ _ _ _) ?_
              refine z_istore (lv' := [(4, .int (iI ((((zac s.1 (s.2.2.1 4) t r (i + 1) / 2) : Nat) : Int)))), (0, .ref ((B 0))), (1, .int (iI ((t : Int)))), (2, .int (iI ((r : Int)))), (3, .int (iI 10)), (5, .int (iI ((((i + 1) : Nat) : Int))))]) (pc := 71) C dX5_tells_71 (by decide) rfl ?_
              refine z_iinc (lv' := [(5, .int (iI (((((i + 1) : Nat) : Int) + 1)))), (4, .int (iI ((((zac s.1 (s.2.2.1 4) t r (i + 1) / 2) : Nat) : Int)))), (0, .ref ((B 0))), (1, .int (iI ((t : Int)))), (2, .int (iI ((r : Int)))), (3, .int (iI 10))]) (pc := 73) C dX5_tells_73 5 rfl (by decide) rfl ?_
              refine z_goto (tgt := 45) (pc := 76) C dX5_tells_76 (by decide) ?_
              refine z_lv (lv' := [(0, .ref ((B 0))), (1, .int (iI ((t : Int)))), (2, .int (iI ((r : Int)))), (3, .int (iI 10)), (4, .int (iI ((((zac s.1 (s.2.2.1 4) t r (i + 1) / 2) : Nat) : Int)))), (5, .int (iI (((((i + 1) : Nat) : Int) + 1))))]) [2, 3, 4, 5, 1, 0] rfl ?_
              exact ih (i + 1) (by omega) (by omega)
        refine z_lv (lv' := [(0, .ref ((B 0))), (1, .int (iI ((t : Int)))), (2, .int (iI ((r : Int)))), (3, .int (iI 10)), (4, .int (iI ((((zac s.1 (s.2.2.1 4) t r 0 / 2) : Nat) : Int)))), (5, .int (iI 1))]) [3, 4, 5, 2, 1, 0] rfl ?_
        exact L45 9 0 (by omega) (by omega)
      · exfalso; omega
    · have hz9 : zst9 s.2.2.1 = 10 := zst9_1 hq2
      have hko : ((zit s.1 s.2.2.1 t r).1 = 3 ∧ (zac s.1 (s.2.2.1 4) t r 8) / 2 = 0 ∧ (zvo s.1 (s.2.2.1 4) (t + 9 * r) r) = 0 ∧ zvo s.1 (s.2.2.1 4) (t + 10 * r) r = 0) ∨ ((zit s.1 s.2.2.1 t r).1 = 2 ∧ ¬ ((zac s.1 (s.2.2.1 4) t r 8) / 2 = 0 ∧ (zvo s.1 (s.2.2.1 4) (t + 9 * r) r) = 0) ∧ zvo s.1 (s.2.2.1 4) (t + 10 * r) r = 0) ∨ ((zit s.1 s.2.2.1 t r).1 = 1 ∧ zvo s.1 (s.2.2.1 4) (t + 10 * r) r = 1 ∧ ¬ ((zvo s.1 (s.2.2.1 4) (t + 9 * r) r) : Int) = zpar (s.2.2.1 2) ((zac s.1 (s.2.2.1 4) t r 8) / 2)) ∨ ((zit s.1 s.2.2.1 t r).1 = 0 ∧ zvo s.1 (s.2.2.1 4) (t + 10 * r) r = 1 ∧ ((zvo s.1 (s.2.2.1 4) (t + 9 * r) r) : Int) = zpar (s.2.2.1 2) ((zac s.1 (s.2.2.1 4) t r 8) / 2)) := by
        have h := zko_10 hq2 hA8 hAe hvb9 hvb10
        unfold zit
        rw [hz9]
        exact h
      have hw1 : (zit s.1 s.2.2.1 t r).2.1 = (zac s.1 (s.2.2.1 4) t r 8) / 2 := by
        unfold zit
        rw [hz9]
        show ((zac s.1 (s.2.2.1 4) t r 8) + (zvo s.1 (s.2.2.1 4) (t + 9 * r) r) * 2 ^ 9 + zvo s.1 (s.2.2.1 4) (t + 10 * r) r * 2 ^ 10) / 2 % 256 = _
        omega
      refine z_aload_n (pc := 22) C dX5_tells_22 0 rfl ?_
      refine z_get (pc := 23) C dX5_tells_23 zCl5 ffX5_tells_7 0 rfl rfl ?_
      refine z_iconst (pc := 26) C dX5_tells_26 ?_
      refine z_iald (pc := 27) C dX5_tells_27 1 rfl (2) (rfl) (by omega) (by decide) ?_
      refine z_if_le (tgt := 36) (pc := 28) C dX5_tells_28 (by decide) ⟨by omega, by omega⟩ (fun c28 => ?_) (fun c28 => ?_)
      · exfalso; omega
      · refine z_bipush (pc := 31) C dX5_tells_31 (by decide +kernel) ?_
        refine z_goto (tgt := 38) (pc := 33) C dX5_tells_33 (by decide) ?_
        refine z_istore_n (lv' := [(3, .int (iI 11)), (0, .ref ((B 0))), (1, .int (iI ((t : Int)))), (2, .int (iI ((r : Int))))]) (pc := 38) C dX5_tells_38 (by decide) rfl ?_
        refine z_iconst (pc := 39) C dX5_tells_39 ?_
        refine z_topi (y := (((zac s.1 (s.2.2.1 4) t r 0 / 2) : Nat) : Int)) (by rw [show zac s.1 (s.2.2.1 4) t r 0 = 0 from rfl]; rfl) ?_
        refine z_istore (lv' := [(4, .int (iI ((((zac s.1 (s.2.2.1 4) t r 0 / 2) : Nat) : Int)))), (3, .int (iI 11)), (0, .ref ((B 0))), (1, .int (iI ((t : Int)))), (2, .int (iI ((r : Int))))]) (pc := 40) C dX5_tells_40 (by decide) rfl ?_
        refine z_iconst (pc := 42) C dX5_tells_42 ?_
        refine z_istore (lv' := [(5, .int (iI 1)), (4, .int (iI ((((zac s.1 (s.2.2.1 4) t r 0 / 2) : Nat) : Int)))), (3, .int (iI 11)), (0, .ref ((B 0))), (1, .int (iI ((t : Int)))), (2, .int (iI ((r : Int))))]) (pc := 43) C dX5_tells_43 (by decide) rfl ?_
        have L45 : ∀ (n : Nat) (i : Nat), 8 < i + n → i ≤ 8 → Z l X G Y 9 0 0 45 [(0, .ref ((B 0))), (1, .int (iI ((t : Int)))), (2, .int (iI ((r : Int)))), (3, .int (iI 11)), (4, .int (iI ((((zac s.1 (s.2.2.1 4) t r i / 2) : Nat) : Int)))), (5, .int (iI ((((i + 1) : Nat) : Int))))] [] [((B 0), .inr (5, [.ref ((B 1)), .ref ((B 2)), .int (iI ((q0 : Int))), .ref ((B 3)), .int (iI ((q1 : Int))), .ref ((B 4)), .ref ((B 5)), .int (iI ((q2 : Int))), .int (iI ((q3 : Int))), .int (iI ((q4 : Int))), .ref ((B 6)), .ref ((B 7)), .int (iI ((q5 : Int))), .int (iI ((q6 : Int))), .ref ((B 8)), .ref ((B 9)), .ref ((B 10)), .ref ((B 11)), .ref ((B 12)), .int (iI ((q7 : Int)))])), cI G (B 1) 1547 M, cI G (B 8) 64 K0, cI G (B 9) 64 K1, cI G (B 10) 64 K2, cI G (B 11) 64 (zU K3 q5 ((zdc s.1 t r i : Nat) : Int)), cI G (B 12) 64 K4] := by
          intro n
          induction n with
          | zero => intro i hn hi; exact absurd hn (by omega)
          | succ n ih =>
            intro i hn hi
            refine z_iload (pc := 45) C dX5_tells_45 5 rfl ?_
            refine z_bipush (pc := 47) C dX5_tells_47 (by decide +kernel) ?_
            refine z_icmp_ge (tgt := 79) (pc := 49) C dX5_tells_49 (by decide) ⟨by omega, by omega⟩ (by decide) (fun c49 => ?_) (fun c49 => ?_)
            · obtain rfl : i = 8 := by omega
              refine z_aload_n (pc := 79) C dX5_tells_79 0 rfl ?_
              refine z_get (pc := 80) C dX5_tells_80 zCl5 ffX5_tells_7 0 rfl rfl ?_
              refine z_iconst (pc := 83) C dX5_tells_83 ?_
              refine z_iald (pc := 84) C dX5_tells_84 1 rfl (2) (rfl) (by omega) (by decide) ?_
              refine z_if_le (tgt := 102) (pc := 85) C dX5_tells_85 (by decide) ⟨by omega, by omega⟩ (fun c85 => ?_) (fun c85 => ?_)
              · exfalso; omega
              · refine z_aload_n (pc := 88) C dX5_tells_88 0 rfl ?_
                refine z_iload_n (pc := 89) C dX5_tells_89 1 rfl ?_
                refine z_bipush (pc := 90) C dX5_tells_90 (by decide +kernel) ?_
                refine z_iload_n (pc := 92) C dX5_tells_92 2 rfl ?_
                refine z_imul (pc := 93) C dX5_tells_93 ?_
                refine z_iadd (pc := 94) C dX5_tells_94 ?_
                refine z_iload_n (pc := 95) C dX5_tells_95 2 rfl ?_
                refine z_callV (As := [.int (iI (((t : Int) + (9 * (r : Int))))), .int (iI ((r : Int)))]) (rest := []) (wc := [((B 0), .inr (5, [.ref ((B 1)), .ref ((B 2)), .int (iI ((q0 : Int))), .ref ((B 3)), .int (iI ((q1 : Int))), .ref ((B 4)), .ref ((B 5)), .int (iI ((q2 : Int))), .int (iI ((q3 : Int))), .int (iI ((q4 : Int))), .ref ((B 6)), .ref ((B 7)), .int (iI ((q5 : Int))), .int (iI ((q6 : Int))), .ref ((B 8)), .ref ((B 9)), .ref ((B 10)), .ref ((B 11)), .ref ((B 12)), .int (iI ((q7 : Int)))])), cI G (B 1) 1547 M, cI G (B 11) 64 (zU K3 q5 ((zdc s.1 t r 8 : Nat) : Int))]) (wr := [cI G (B 8) 64 K0, cI G (B 9) 64 K1, cI G (B 10) 64 K2, cI G (B 12) 64 K4]) (fs := [.ref ((B 1)), .ref ((B 2)), .int (iI ((q0 : Int))), .ref ((B 3)), .int (iI ((q1 : Int))), .ref ((B 4)), .ref ((B 5)), .int (iI ((q2 : Int))), .int (iI ((q3 : Int))), .int (iI ((q4 : Int))), .ref ((B 6)), .ref ((B 7)), .int (iI ((q5 : Int))), .int (iI ((q6 : Int))), .ref ((B 8)), .ref ((B 9)), .ref ((B 10)), .ref ((B 11)), .ref ((B 12)), .int (iI ((q7 : Int)))]) (pc := 96) C dX5_tells_96 (k_X5_bit l G B q0 q1 q2 q3 q4 q5 q6 q7 M (zU K3 q5 ((zdc s.1 t r 8 : Nat) : Int)) (t + 9 * r) r s hs hM (by omega) hr (by omega)) gX5_tells_X5_bit ⟨⟨_, rfl⟩, ⟨rfl, rfl⟩, nyX5_bit, ⟨Nat.le_of_ble_eq_true rfl, Nat.le_of_ble_eq_true rfl⟩⟩ rfl zCl5 rfl (fun h => h) rfl (Nat.le_of_ble_eq_true rfl) [0, 1, 5] [2, 3, 4, 6] rfl rfl (by decide) (by decide) (by decide) ⟨Nat.le_of_ble_eq_true rfl, Nat.le_of_ble_eq_true rfl⟩ (fun v w hk => ?_)
                obtain ⟨rfl, rfl⟩ := hk
                refine z_fix (pc2 := 99) (st2 := [.int (iI ((((zvo s.1 (s.2.2.1 4) (t + 9 * r) r) : Nat) : Int)))]) (ws' := [((B 0), .inr (5, [.ref ((B 1)), .ref ((B 2)), .int (iI ((q0 : Int))), .ref ((B 3)), .int (iI ((q1 : Int))), .ref ((B 4)), .ref ((B 5)), .int (iI ((q2 : Int))), .int (iI ((q3 : Int))), .int (iI ((q4 : Int))), .ref ((B 6)), .ref ((B 7)), .int (iI ((q5 : Int))), .int (iI ((q6 : Int))), .ref ((B 8)), .ref ((B 9)), .ref ((B 10)), .ref ((B 11)), .ref ((B 12)), .int (iI ((q7 : Int)))])), cI G (B 1) 1547 M, cI G (B 8) 64 K0, cI G (B 9) 64 K1, cI G (B 10) 64 K2, cI G (B 11) 64 (zU (zU K3 q5 ((zdc s.1 t r 8 : Nat) : Int)) q5 ((zU K3 q5 ((zdc s.1 t r 8 : Nat) : Int)) q5 + ((zdo s.1 (t + 9 * r) r : Nat) : Int))), cI G (B 12) 64 K4]) [4, 5, 0, 1, 2, 6, 3] rfl rfl rfl (by decide) ?_
                refine z_rowI (F' := (zU K3 q5 ((zdc s.1 t r 9 : Nat) : Int))) (ws' := [((B 0), .inr (5, [.ref ((B 1)), .ref ((B 2)), .int (iI ((q0 : Int))), .ref ((B 3)), .int (iI ((q1 : Int))), .ref ((B 4)), .ref ((B 5)), .int (iI ((q2 : Int))), .int (iI ((q3 : Int))), .int (iI ((q4 : Int))), .ref ((B 6)), .ref ((B 7)), .int (iI ((q5 : Int))), .int (iI ((q6 : Int))), .ref ((B 8)), .ref ((B 9)), .ref ((B 10)), .ref ((B 11)), .ref ((B 12)), .int (iI ((q7 : Int)))])), cI G (B 1) 1547 M, cI G (B 8) 64 K0, cI G (B 9) 64 K1, cI G (B 10) 64 K2, cI G (B 11) 64 (zU K3 q5 ((zdc s.1 t r 9 : Nat) : Int)), cI G (B 12) 64 K4]) 5 rfl (fun j _ => zU_acc K3 q5 _ _ j) rfl ?_
                refine z_goto (tgt := 103) (pc := 99) C dX5_tells_99 (by decide) ?_
                refine z_istore (lv' := [(5, .int (iI ((((zvo s.1 (s.2.2.1 4) (t + 9 * r) r) : Nat) : Int)))), (0, .ref ((B 0))), (1, .int (iI ((t : Int)))), (2, .int (iI ((r : Int)))), (3, .int (iI 11)), (4, .int (iI ((((zac s.1 (s.2.2.1 4) t r 8 / 2) : Nat) : Int))))]) (pc := 103) C dX5_tells_103 (by decide) rfl ?_
                refine z_aload_n (pc := 105) C dX5_tells_105 1 rfl ?_
                refine z_iload_n (pc := 106) C dX5_tells_106 2 rfl ?_
                refine z_iload_n (pc := 107) C dX5_tells_107 4 rfl ?_
                refine z_iconst (pc := 108) C dX5_tells_108 ?_
                refine z_isub (pc := 109) C dX5_tells_109 ?_
                refine z_iload_n (pc := 110) C dX5_tells_110 3 rfl ?_
                refine z_imul (pc := 111) C dX5_tells_111 ?_
                refine z_iadd (pc := 112) C dX5_tells_112 ?_
                refine z_iload_n (pc := 113) C dX5_tells_113 3 rfl ?_
                refine z_callV (As := [.int (iI (((t : Int) + ((11 - 1) * (r : Int))))), .int (iI ((r : Int)))]) (rest := []) (wc := [((B 0), .inr (5, [.ref ((B 1)), .ref ((B 2)), .int (iI ((q0 : Int))), .ref ((B 3)), .int (iI ((q1 : Int))), .ref ((B 4)), .ref ((B 5)), .int (iI ((q2 : Int))), .int (iI ((q3 : Int))), .int (iI ((q4 : Int))), .ref ((B 6)), .ref ((B 7)), .int (iI ((q5 : Int))), .int (iI ((q6 : Int))), .ref ((B 8)), .ref ((B 9)), .ref ((B 10)), .ref ((B 11)), .ref ((B 12)), .int (iI ((q7 : Int)))])), cI G (B 1) 1547 M, cI G (B 11) 64 (zU K3 q5 ((zdc s.1 t r 9 : Nat) : Int))]) (wr := [cI G (B 8) 64 K0, cI G (B 9) 64 K1, cI G (B 10) 64 K2, cI G (B 12) 64 K4]) (fs := [.ref ((B 1)), .ref ((B 2)), .int (iI ((q0 : Int))), .ref ((B 3)), .int (iI ((q1 : Int))), .ref ((B 4)), .ref ((B 5)), .int (iI ((q2 : Int))), .int (iI ((q3 : Int))), .int (iI ((q4 : Int))), .ref ((B 6)), .ref ((B 7)), .int (iI ((q5 : Int))), .int (iI ((q6 : Int))), .ref ((B 8)), .ref ((B 9)), .ref ((B 10)), .ref ((B 11)), .ref ((B 12)), .int (iI ((q7 : Int)))]) (pc := 114) C dX5_tells_114 (k_X5_bit l G B q0 q1 q2 q3 q4 q5 q6 q7 M (zU K3 q5 ((zdc s.1 t r 9 : Nat) : Int)) (t + 10 * r) r s hs hM (by omega) hr (by omega)) gX5_tells_X5_bit ⟨⟨_, rfl⟩, ⟨rfl, rfl⟩, nyX5_bit, ⟨Nat.le_of_ble_eq_true rfl, Nat.le_of_ble_eq_true rfl⟩⟩ rfl zCl5 rfl (fun h => h) rfl (Nat.le_of_ble_eq_true rfl) [0, 1, 5] [2, 3, 4, 6] rfl rfl (by decide) (by decide) (by decide) ⟨Nat.le_of_ble_eq_true rfl, Nat.le_of_ble_eq_true rfl⟩ (fun v w hk => ?_)
                obtain ⟨rfl, rfl⟩ := hk
                refine z_fix (pc2 := 117) (st2 := [.int (iI ((((zvo s.1 (s.2.2.1 4) (t + 10 * r) r) : Nat) : Int)))]) (ws' := [((B 0), .inr (5, [.ref ((B 1)), .ref ((B 2)), .int (iI ((q0 : Int))), .ref ((B 3)), .int (iI ((q1 : Int))), .ref ((B 4)), .ref ((B 5)), .int (iI ((q2 : Int))), .int (iI ((q3 : Int))), .int (iI ((q4 : Int))), .ref ((B 6)), .ref ((B 7)), .int (iI ((q5 : Int))), .int (iI ((q6 : Int))), .ref ((B 8)), .ref ((B 9)), .ref ((B 10)), .ref ((B 11)), .ref ((B 12)), .int (iI ((q7 : Int)))])), cI G (B 1) 1547 M, cI G (B 8) 64 K0, cI G (B 9) 64 K1, cI G (B 10) 64 K2, cI G (B 11) 64 (zU (zU K3 q5 ((zdc s.1 t r 9 : Nat) : Int)) q5 ((zU K3 q5 ((zdc s.1 t r 9 : Nat) : Int)) q5 + ((zdo s.1 (t + 10 * r) r : Nat) : Int))), cI G (B 12) 64 K4]) [4, 5, 0, 1, 2, 6, 3] rfl rfl rfl (by decide) ?_
                refine z_rowI (F' := (zU K3 q5 ((zdc s.1 t r 10 : Nat) : Int))) (ws' := [((B 0), .inr (5, [.ref ((B 1)), .ref ((B 2)), .int (iI ((q0 : Int))), .ref ((B 3)), .int (iI ((q1 : Int))), .ref ((B 4)), .ref ((B 5)), .int (iI ((q2 : Int))), .int (iI ((q3 : Int))), .int (iI ((q4 : Int))), .ref ((B 6)), .ref ((B 7)), .int (iI ((q5 : Int))), .int (iI ((q6 : Int))), .ref ((B 8)), .ref ((B 9)), .ref ((B 10)), .ref ((B 11)), .ref ((B 12)), .int (iI ((q7 : Int)))])), cI G (B 1) 1547 M, cI G (B 8) 64 K0, cI G (B 9) 64 K1, cI G (B 10) 64 K2, cI G (B 11) 64 (zU K3 q5 ((zdc s.1 t r 10 : Nat) : Int)), cI G (B 12) 64 K4]) 5 rfl (fun j _ => zU_acc K3 q5 _ _ j) rfl ?_
                refine z_topi (y := (((zvo s.1 (s.2.2.1 4) (t + 10 * r) r) : Nat) : Int)) (rfl) ?_
                refine z_istore (lv' := [(6, .int (iI ((((zvo s.1 (s.2.2.1 4) (t + 10 * r) r) : Nat) : Int)))), (5, .int (iI ((((zvo s.1 (s.2.2.1 4) (t + 9 * r) r) : Nat) : Int)))), (0, .ref ((B 0))), (1, .int (iI ((t : Int)))), (2, .int (iI ((r : Int)))), (3, .int (iI 11)), (4, .int (iI ((((zac s.1 (s.2.2.1 4) t r 8 / 2) : Nat) : Int))))]) (pc := 117) C dX5_tells_117 (by decide) rfl ?_
                refine z_aload_n (pc := 119) C dX5_tells_119 2 rfl ?_
                refine z_get (pc := 120) C dX5_tells_120 zCl5 ffX5_tells_7 0 rfl rfl ?_
                refine z_iconst (pc := 123) C dX5_tells_123 ?_
                refine z_iald (pc := 124) C dX5_tells_124 1 rfl (2) (rfl) (by omega) (by decide) ?_
                refine z_if_le (tgt := 143) (pc := 125) C dX5_tells_125 (by decide) ⟨by omega, by omega⟩ (fun c125 => ?_) (fun c125 => ?_)
                · exfalso; omega
                · refine z_iload (pc := 128) C dX5_tells_128 1 rfl ?_
                  refine z_aload_n (pc := 130) C dX5_tells_130 2 rfl ?_
                  refine z_iload (pc := 131) C dX5_tells_131 6 rfl ?_
                  refine z_callV (As := [.int (iI ((((zac s.1 (s.2.2.1 4) t r 8 / 2) : Nat) : Int)))]) (rest := [.int (iI ((((zvo s.1 (s.2.2.1 4) (t + 9 * r) r) : Nat) : Int)))]) (wc := [((B 0), .inr (5, [.ref ((B 1)), .ref ((B 2)), .int (iI ((q0 : Int))), .ref ((B 3)), .int (iI ((q1 : Int))), .ref ((B 4)), .ref ((B 5)), .int (iI ((q2 : Int))), .int (iI ((q3 : Int))), .int (iI ((q4 : Int))), .ref ((B 6)), .ref ((B 7)), .int (iI ((q5 : Int))), .int (iI ((q6 : Int))), .ref ((B 8)), .ref ((B 9)), .ref ((B 10)), .ref ((B 11)), .ref ((B 12)), .int (iI ((q7 : Int)))])), cI G (B 1) 1547 M]) (wr := [cI G (B 8) 64 K0, cI G (B 9) 64 K1, cI G (B 10) 64 K2, cI G (B 11) 64 (zU K3 q5 ((zdc s.1 t r 10 : Nat) : Int)), cI G (B 12) 64 K4]) (fs := [.ref ((B 1)), .ref ((B 2)), .int (iI ((q0 : Int))), .ref ((B 3)), .int (iI ((q1 : Int))), .ref ((B 4)), .ref ((B 5)), .int (iI ((q2 : Int))), .int (iI ((q3 : Int))), .int (iI ((q4 : Int))), .ref ((B 6)), .ref ((B 7)), .int (iI ((q5 : Int))), .int (iI ((q6 : Int))), .ref ((B 8)), .ref ((B 9)), .ref ((B 10)), .ref ((B 11)), .ref ((B 12)), .int (iI ((q7 : Int)))]) (pc := 133) C dX5_tells_133 (k_X5_parityOf l G B q0 q1 q2 q3 q4 q5 q6 q7 M (zac s.1 (s.2.2.1 4) t r 8 / 2) s hs hM (by omega)) gX5_tells_X5_parityOf ⟨⟨_, rfl⟩, ⟨rfl, rfl⟩, nyX5_parityOf, ⟨Nat.le_of_ble_eq_true rfl, Nat.le_of_ble_eq_true rfl⟩⟩ rfl zCl5 rfl (fun h => h) rfl (Nat.le_of_ble_eq_true rfl) [0, 1] [2, 3, 4, 5, 6] rfl rfl (by decide) (by decide) (by decide) ⟨Nat.le_of_ble_eq_true rfl, Nat.le_of_ble_eq_true rfl⟩ (fun v w hk => ?_)
                  obtain ⟨rfl, rfl⟩ := hk
                  refine z_fix (pc2 := 136) (st2 := [.int (iI ((zpar (s.2.2.1 2) (zac s.1 (s.2.2.1 4) t r 8 / 2)))), .int (iI ((((zvo s.1 (s.2.2.1 4) (t + 9 * r) r) : Nat) : Int)))]) (ws' := [((B 0), .inr (5, [.ref ((B 1)), .ref ((B 2)), .int (iI ((q0 : Int))), .ref ((B 3)), .int (iI ((q1 : Int))), .ref ((B 4)), .ref ((B 5)), .int (iI ((q2 : Int))), .int (iI ((q3 : Int))), .int (iI ((q4 : Int))), .ref ((B 6)), .ref ((B 7)), .int (iI ((q5 : Int))), .int (iI ((q6 : Int))), .ref ((B 8)), .ref ((B 9)), .ref ((B 10)), .ref ((B 11)), .ref ((B 12)), .int (iI ((q7 : Int)))])), cI G (B 1) 1547 M, cI G (B 8) 64 K0, cI G (B 9) 64 K1, cI G (B 10) 64 K2, cI G (B 11) 64 (zU K3 q5 ((zdc s.1 t r 10 : Nat) : Int)), cI G (B 12) 64 K4]) [5, 6, 0, 1, 2, 3, 4] rfl rfl rfl (by decide) ?_
                  refine z_icmp_eq (tgt := 143) (pc := 136) C dX5_tells_136 (by decide) ⟨by omega, by omega⟩ ⟨by omega, by omega⟩ (fun c136 => ?_) (fun c136 => ?_)
                  · refine z_iconst (pc := 143) C dX5_tells_143 ?_
                    refine z_istore (lv' := [(7, .int (iI 0)), (6, .int (iI ((((zvo s.1 (s.2.2.1 4) (t + 10 * r) r) : Nat) : Int)))), (5, .int (iI ((((zvo s.1 (s.2.2.1 4) (t + 9 * r) r) : Nat) : Int)))), (0, .ref ((B 0))), (1, .int (iI ((t : Int)))), (2, .int (iI ((r : Int)))), (3, .int (iI 11)), (4, .int (iI ((((zac s.1 (s.2.2.1 4) t r 8 / 2) : Nat) : Int))))]) (pc := 144) C dX5_tells_144 (by decide) rfl ?_
                    refine z_iload (pc := 146) C dX5_tells_146 7 rfl ?_
                    refine z_if_ne (tgt := 165) (pc := 148) C dX5_tells_148 (by decide) ⟨by omega, by omega⟩ (fun c148 => ?_) (fun c148 => ?_)
                    · refine z_iconst (pc := 165) C dX5_tells_165 ?_
                      refine z_istore (lv' := [(8, .int (iI 0)), (7, .int (iI 0)), (6, .int (iI ((((zvo s.1 (s.2.2.1 4) (t + 10 * r) r) : Nat) : Int)))), (5, .int (iI ((((zvo s.1 (s.2.2.1 4) (t + 9 * r) r) : Nat) : Int)))), (0, .ref ((B 0))), (1, .int (iI ((t : Int)))), (2, .int (iI ((r : Int)))), (3, .int (iI 11)), (4, .int (iI ((((zac s.1 (s.2.2.1 4) t r 8 / 2) : Nat) : Int))))]) (pc := 166) C dX5_tells_166 (by decide) rfl ?_
                      refine z_rowI (F' := (zU K3 q5 (((zit s.1 s.2.2.1 t r).2.2.2.1 : Nat) : Int))) (ws' := [((B 0), .inr (5, [.ref ((B 1)), .ref ((B 2)), .int (iI ((q0 : Int))), .ref ((B 3)), .int (iI ((q1 : Int))), .ref ((B 4)), .ref ((B 5)), .int (iI ((q2 : Int))), .int (iI ((q3 : Int))), .int (iI ((q4 : Int))), .ref ((B 6)), .ref ((B 7)), .int (iI ((q5 : Int))), .int (iI ((q6 : Int))), .ref ((B 8)), .ref ((B 9)), .ref ((B 10)), .ref ((B 11)), .ref ((B 12)), .int (iI ((q7 : Int)))])), cI G (B 1) 1547 M, cI G (B 8) 64 K0, cI G (B 9) 64 K1, cI G (B 10) 64 K2, cI G (B 11) 64 (zU K3 q5 (((zit s.1 s.2.2.1 t r).2.2.2.1 : Nat) : Int)), cI G (B 12) 64 K4]) 5 rfl (fun j _ => by rw [show (zit s.1 s.2.2.1 t r).2.2.2.1 = zdc s.1 t r (zst9 s.2.2.1) from rfl, hz9]) rfl ?_
                      refine z_aload_n (pc := 168) C dX5_tells_168 4 rfl ?_
                      refine z_get (pc := 169) C dX5_tells_169 zCl5 ffX5_tells_31 0 rfl rfl ?_
                      refine z_aload_n (pc := 172) C dX5_tells_172 4 rfl ?_
                      refine z_get (pc := 173) C dX5_tells_173 zCl5 ffX5_tells_109 0 rfl rfl ?_
                      refine z_iload (pc := 176) C dX5_tells_176 0 rfl ?_
                      refine z_if_eq (tgt := 185) (pc := 178) C dX5_tells_178 (by decide) (by decide) (fun c178 => ?_) (fun c178 => ?_)
                      · refine z_iload (pc := 185) C dX5_tells_185 2 rfl ?_
                        refine z_if_ne (tgt := 194) (pc := 187) C dX5_tells_187 (by decide) ⟨by omega, by omega⟩ (fun c187 => ?_) (fun c187 => ?_)
                        · refine z_iload (pc := 194) C dX5_tells_194 1 rfl ?_
                          refine z_if_eq (tgt := 203) (pc := 196) C dX5_tells_196 (by decide) (by decide) (fun c196 => ?_) (fun c196 => ?_)
                          · refine z_iconst (pc := 203) C dX5_tells_203 ?_
                            refine z_topi (y := (zit s.1 s.2.2.1 t r).1) (by omega) ?_
                            refine z_iast (ws' := [((B 0), .inr (5, [.ref ((B 1)), .ref ((B 2)), .int (iI ((q0 : Int))), .ref ((B 3)), .int (iI ((q1 : Int))), .ref ((B 4)), .ref ((B 5)), .int (iI ((q2 : Int))), .int (iI ((q3 : Int))), .int (iI ((q4 : Int))), .ref ((B 6)), .ref ((B 7)), .int (iI ((q5 : Int))), .int (iI ((q6 : Int))), .ref ((B 8)), .ref ((B 9)), .ref ((B 10)), .ref ((B 11)), .ref ((B 12)), .int (iI ((q7 : Int)))])), cI G (B 1) 1547 M, cI G (B 8) 64 (zU K0 q5 ((zit s.1 s.2.2.1 t r).1)), cI G (B 9) 64 K1, cI G (B 10) 64 K2, cI G (B 11) 64 (zU K3 q5 (((zit s.1 s.2.2.1 t r).2.2.2.1 : Nat) : Int)), cI G (B 12) 64 K4]) (pc := 204) C dX5_tells_204 2 rfl (q5) (by omega) (by omega) (by decide) rfl ?_
                            refine z_aload_n (pc := 205) C dX5_tells_205 4 rfl ?_
                            refine z_get (pc := 206) C dX5_tells_206 zCl5 ffX5_tells_34 0 rfl rfl ?_
                            refine z_aload_n (pc := 209) C dX5_tells_209 4 rfl ?_
                            refine z_get (pc := 210) C dX5_tells_210 zCl5 ffX5_tells_109 0 rfl rfl ?_
                            refine z_iload (pc := 213) C dX5_tells_213 8 rfl ?_
                            refine z_topi (y := (((zit s.1 s.2.2.1 t r).2.1 : Nat) : Int)) (by rw [hw1]) ?_
                            refine z_iast (ws' := [((B 0), .inr (5, [.ref ((B 1)), .ref ((B 2)), .int (iI ((q0 : Int))), .ref ((B 3)), .int (iI ((q1 : Int))), .ref ((B 4)), .ref ((B 5)), .int (iI ((q2 : Int))), .int (iI ((q3 : Int))), .int (iI ((q4 : Int))), .ref ((B 6)), .ref ((B 7)), .int (iI ((q5 : Int))), .int (iI ((q6 : Int))), .ref ((B 8)), .ref ((B 9)), .ref ((B 10)), .ref ((B 11)), .ref ((B 12)), .int (iI ((q7 : Int)))])), cI G (B 1) 1547 M, cI G (B 8) 64 (zU K0 q5 ((zit s.1 s.2.2.1 t r).1)), cI G (B 9) 64 (zU K1 q5 (((zit s.1 s.2.2.1 t r).2.1 : Nat) : Int)), cI G (B 10) 64 K2, cI G (B 11) 64 (zU K3 q5 (((zit s.1 s.2.2.1 t r).2.2.2.1 : Nat) : Int)), cI G (B 12) 64 K4]) (pc := 215) C dX5_tells_215 3 rfl (q5) (by omega) (by omega) (by decide) rfl ?_
                            refine z_aload_n (pc := 216) C dX5_tells_216 4 rfl ?_
                            refine z_get (pc := 217) C dX5_tells_217 zCl5 ffX5_tells_37 0 rfl rfl ?_
                            refine z_aload_n (pc := 220) C dX5_tells_220 4 rfl ?_
                            refine z_get (pc := 221) C dX5_tells_221 zCl5 ffX5_tells_109 0 rfl rfl ?_
                            refine z_iload_n (pc := 224) C dX5_tells_224 5 rfl ?_
                            refine z_topi (y := (((zit s.1 s.2.2.1 t r).2.2.1 : Nat) : Int)) (rfl) ?_
                            refine z_iast (ws' := [((B 0), .inr (5, [.ref ((B 1)), .ref ((B 2)), .int (iI ((q0 : Int))), .ref ((B 3)), .int (iI ((q1 : Int))), .ref ((B 4)), .ref ((B 5)), .int (iI ((q2 : Int))), .int (iI ((q3 : Int))), .int (iI ((q4 : Int))), .ref ((B 6)), .ref ((B 7)), .int (iI ((q5 : Int))), .int (iI ((q6 : Int))), .ref ((B 8)), .ref ((B 9)), .ref ((B 10)), .ref ((B 11)), .ref ((B 12)), .int (iI ((q7 : Int)))])), cI G (B 1) 1547 M, cI G (B 8) 64 (zU K0 q5 ((zit s.1 s.2.2.1 t r).1)), cI G (B 9) 64 (zU K1 q5 (((zit s.1 s.2.2.1 t r).2.1 : Nat) : Int)), cI G (B 10) 64 (zU K2 q5 (((zit s.1 s.2.2.1 t r).2.2.1 : Nat) : Int)), cI G (B 11) 64 (zU K3 q5 (((zit s.1 s.2.2.1 t r).2.2.2.1 : Nat) : Int)), cI G (B 12) 64 K4]) (pc := 225) C dX5_tells_225 4 rfl (q5) (by omega) (by omega) (by decide) rfl ?_
                            refine z_aload_n (pc := 226) C dX5_tells_226 4 rfl ?_
                            refine z_get (pc := 227) C dX5_tells_227 zCl5 ffX5_tells_43 0 rfl rfl ?_
                            refine z_aload_n (pc := 230) C dX5_tells_230 4 rfl ?_
                            refine z_get (pc := 231) C dX5_tells_231 zCl5 ffX5_tells_109 0 rfl rfl ?_
                            refine z_iload_n (pc := 234) C dX5_tells_234 5 rfl ?_
                            refine z_iload_n (pc := 235) C dX5_tells_235 7 rfl ?_
                            refine z_iconst (pc := 236) C dX5_tells_236 ?_
                            refine z_isub (pc := 237) C dX5_tells_237 ?_
                            refine z_iload_n (pc := 238) C dX5_tells_238 6 rfl ?_
                            refine z_imul (pc := 239) C dX5_tells_239 ?_
                            refine z_iadd (pc := 240) C dX5_tells_240 ?_
                            refine z_iconst (pc := 241) C dX5_tells_241 ?_
                            refine z_iload_n (pc := 242) C dX5_tells_242 6 rfl ?_
                            refine z_imul (pc := 243) C dX5_tells_243 ?_
                            refine z_iconst (pc := 244) C dX5_tells_244 ?_
                            refine z_idiv (pc := 245) C dX5_tells_245 ⟨by omega, by omega⟩ (by decide) ?_
                            refine z_iadd (pc := 246) C dX5_tells_246 ?_
                            refine z_topi (y := (((zit s.1 s.2.2.1 t r).2.2.2.2 : Nat) : Int)) (by show _ = ((zlast s.2.2.1 t r : Nat) : Int); unfold zlast; rw [hz9]; omega) ?_
                            refine z_iast (ws' := [((B 0), .inr (5, [.ref ((B 1)), .ref ((B 2)), .int (iI ((q0 : Int))), .ref ((B 3)), .int (iI ((q1 : Int))), .ref ((B 4)), .ref ((B 5)), .int (iI ((q2 : Int))), .int (iI ((q3 : Int))), .int (iI ((q4 : Int))), .ref ((B 6)), .ref ((B 7)), .int (iI ((q5 : Int))), .int (iI ((q6 : Int))), .ref ((B 8)), .ref ((B 9)), .ref ((B 10)), .ref ((B 11)), .ref ((B 12)), .int (iI ((q7 : Int)))])), cI G (B 1) 1547 M, cI G (B 8) 64 (zU K0 q5 ((zit s.1 s.2.2.1 t r).1)), cI G (B 9) 64 (zU K1 q5 (((zit s.1 s.2.2.1 t r).2.1 : Nat) : Int)), cI G (B 10) 64 (zU K2 q5 (((zit s.1 s.2.2.1 t r).2.2.1 : Nat) : Int)), cI G (B 11) 64 (zU K3 q5 (((zit s.1 s.2.2.1 t r).2.2.2.1 : Nat) : Int)), cI G (B 12) 64 (zU K4 q5 (((zit s.1 s.2.2.1 t r).2.2.2.2 : Nat) : Int))]) (pc := 247) C dX5_tells_247 6 rfl (q5) (by omega) (by omega) (by decide) rfl ?_
                            refine z_iconst (pc := 248) C dX5_tells_248 ?_
                            exact z_zret (pc := 249) C R0 (by decide) dX5_tells_249 (⟨rfl, rfl⟩)
                          · exfalso; omega
                        · refine z_iconst (pc := 190) C dX5_tells_190 ?_
                          refine z_goto (tgt := 204) (pc := 191) C dX5_tells_191 (by decide) ?_
                          refine z_topi (y := (zit s.1 s.2.2.1 t r).1) (by omega) ?_
                          refine z_iast (ws' := [((B 0), .inr (5, [.ref ((B 1)), .ref ((B 2)), .int (iI ((q0 : Int))), .ref ((B 3)), .int (iI ((q1 : Int))), .ref ((B 4)), .ref ((B 5)), .int (iI ((q2 : Int))), .int (iI ((q3 : Int))), .int (iI ((q4 : Int))), .ref ((B 6)), .ref ((B 7)), .int (iI ((q5 : Int))), .int (iI ((q6 : Int))), .ref ((B 8)), .ref ((B 9)), .ref ((B 10)), .ref ((B 11)), .ref ((B 12)), .int (iI ((q7 : Int)))])), cI G (B 1) 1547 M, cI G (B 8) 64 (zU K0 q5 ((zit s.1 s.2.2.1 t r).1)), cI G (B 9) 64 K1, cI G (B 10) 64 K2, cI G (B 11) 64 (zU K3 q5 (((zit s.1 s.2.2.1 t r).2.2.2.1 : Nat) : Int)), cI G (B 12) 64 K4]) (pc := 204) C dX5_tells_204 2 rfl (q5) (by omega) (by omega) (by decide) rfl ?_
                          refine z_aload_n (pc := 205) C dX5_tells_205 4 rfl ?_
                          refine z_get (pc := 206) C dX5_tells_206 zCl5 ffX5_tells_34 0 rfl rfl ?_
                          refine z_aload_n (pc := 209) C dX5_tells_209 4 rfl ?_
                          refine z_get (pc := 210) C dX5_tells_210 zCl5 ffX5_tells_109 0 rfl rfl ?_
                          refine z_iload (pc := 213) C dX5_tells_213 8 rfl ?_
                          refine z_topi (y := (((zit s.1 s.2.2.1 t r).2.1 : Nat) : Int)) (by rw [hw1]) ?_
                          refine z_iast (ws' := [((B 0), .inr (5, [.ref ((B 1)), .ref ((B 2)), .int (iI ((q0 : Int))), .ref ((B 3)), .int (iI ((q1 : Int))), .ref ((B 4)), .ref ((B 5)), .int (iI ((q2 : Int))), .int (iI ((q3 : Int))), .int (iI ((q4 : Int))), .ref ((B 6)), .ref ((B 7)), .int (iI ((q5 : Int))), .int (iI ((q6 : Int))), .ref ((B 8)), .ref ((B 9)), .ref ((B 10)), .ref ((B 11)), .ref ((B 12)), .int (iI ((q7 : Int)))])), cI G (B 1) 1547 M, cI G (B 8) 64 (zU K0 q5 ((zit s.1 s.2.2.1 t r).1)), cI G (B 9) 64 (zU K1 q5 (((zit s.1 s.2.2.1 t r).2.1 : Nat) : Int)), cI G (B 10) 64 K2, cI G (B 11) 64 (zU K3 q5 (((zit s.1 s.2.2.1 t r).2.2.2.1 : Nat) : Int)), cI G (B 12) 64 K4]) (pc := 215) C dX5_tells_215 3 rfl (q5) (by omega) (by omega) (by decide) rfl ?_
                          refine z_aload_n (pc := 216) C dX5_tells_216 4 rfl ?_
                          refine z_get (pc := 217) C dX5_tells_217 zCl5 ffX5_tells_37 0 rfl rfl ?_
                          refine z_aload_n (pc := 220) C dX5_tells_220 4 rfl ?_
                          refine z_get (pc := 221) C dX5_tells_221 zCl5 ffX5_tells_109 0 rfl rfl ?_
                          refine z_iload_n (pc := 224) C dX5_tells_224 5 rfl ?_
                          refine z_topi (y := (((zit s.1 s.2.2.1 t r).2.2.1 : Nat) : Int)) (rfl) ?_
                          refine z_iast (ws' := [((B 0), .inr (5, [.ref ((B 1)), .ref ((B 2)), .int (iI ((q0 : Int))), .ref ((B 3)), .int (iI ((q1 : Int))), .ref ((B 4)), .ref ((B 5)), .int (iI ((q2 : Int))), .int (iI ((q3 : Int))), .int (iI ((q4 : Int))), .ref ((B 6)), .ref ((B 7)), .int (iI ((q5 : Int))), .int (iI ((q6 : Int))), .ref ((B 8)), .ref ((B 9)), .ref ((B 10)), .ref ((B 11)), .ref ((B 12)), .int (iI ((q7 : Int)))])), cI G (B 1) 1547 M, cI G (B 8) 64 (zU K0 q5 ((zit s.1 s.2.2.1 t r).1)), cI G (B 9) 64 (zU K1 q5 (((zit s.1 s.2.2.1 t r).2.1 : Nat) : Int)), cI G (B 10) 64 (zU K2 q5 (((zit s.1 s.2.2.1 t r).2.2.1 : Nat) : Int)), cI G (B 11) 64 (zU K3 q5 (((zit s.1 s.2.2.1 t r).2.2.2.1 : Nat) : Int)), cI G (B 12) 64 K4]) (pc := 225) C dX5_tells_225 4 rfl (q5) (by omega) (by omega) (by decide) rfl ?_
                          refine z_aload_n (pc := 226) C dX5_tells_226 4 rfl ?_
                          refine z_get (pc := 227) C dX5_tells_227 zCl5 ffX5_tells_43 0 rfl rfl ?_
                          refine z_aload_n (pc := 230) C dX5_tells_230 4 rfl ?_
                          refine z_get (pc := 231) C dX5_tells_231 zCl5 ffX5_tells_109 0 rfl rfl ?_
                          refine z_iload_n (pc := 234) C dX5_tells_234 5 rfl ?_
                          refine z_iload_n (pc := 235) C dX5_tells_235 7 rfl ?_
                          refine z_iconst (pc := 236) C dX5_tells_236 ?_
                          refine z_isub (pc := 237) C dX5_tells_237 ?_
                          refine z_iload_n (pc := 238) C dX5_tells_238 6 rfl ?_
                          refine z_imul (pc := 239) C dX5_tells_239 ?_
                          refine z_iadd (pc := 240) C dX5_tells_240 ?_
                          refine z_iconst (pc := 241) C dX5_tells_241 ?_
                          refine z_iload_n (pc := 242) C dX5_tells_242 6 rfl ?_
                          refine z_imul (pc := 243) C dX5_tells_243 ?_
                          refine z_iconst (pc := 244) C dX5_tells_244 ?_
                          refine z_idiv (pc := 245) C dX5_tells_245 ⟨by omega, by omega⟩ (by decide) ?_
                          refine z_iadd (pc := 246) C dX5_tells_246 ?_
                          refine z_topi (y := (((zit s.1 s.2.2.1 t r).2.2.2.2 : Nat) : Int)) (by show _ = ((zlast s.2.2.1 t r : Nat) : Int); unfold zlast; rw [hz9]; omega) ?_
                          refine z_iast (ws' := [((B 0), .inr (5, [.ref ((B 1)), .ref ((B 2)), .int (iI ((q0 : Int))), .ref ((B 3)), .int (iI ((q1 : Int))), .ref ((B 4)), .ref ((B 5)), .int (iI ((q2 : Int))), .int (iI ((q3 : Int))), .int (iI ((q4 : Int))), .ref ((B 6)), .ref ((B 7)), .int (iI ((q5 : Int))), .int (iI ((q6 : Int))), .ref ((B 8)), .ref ((B 9)), .ref ((B 10)), .ref ((B 11)), .ref ((B 12)), .int (iI ((q7 : Int)))])), cI G (B 1) 1547 M, cI G (B 8) 64 (zU K0 q5 ((zit s.1 s.2.2.1 t r).1)), cI G (B 9) 64 (zU K1 q5 (((zit s.1 s.2.2.1 t r).2.1 : Nat) : Int)), cI G (B 10) 64 (zU K2 q5 (((zit s.1 s.2.2.1 t r).2.2.1 : Nat) : Int)), cI G (B 11) 64 (zU K3 q5 (((zit s.1 s.2.2.1 t r).2.2.2.1 : Nat) : Int)), cI G (B 12) 64 (zU K4 q5 (((zit s.1 s.2.2.1 t r).2.2.2.2 : Nat) : Int))]) (pc := 247) C dX5_tells_247 6 rfl (q5) (by omega) (by omega) (by decide) rfl ?_
                          refine z_iconst (pc := 248) C dX5_tells_248 ?_
                          exact z_zret (pc := 249) C R0 (by decide) dX5_tells_249 (⟨rfl, rfl⟩)
                      · exfalso; omega
                    · refine z_iload (pc := 151) C dX5_tells_151 2 rfl ?_
                      refine z_if_ne (tgt := 165) (pc := 153) C dX5_tells_153 (by decide) ⟨by omega, by omega⟩ (fun c153 => ?_) (fun c153 => ?_)
                      · refine z_iconst (pc := 165) C dX5_tells_165 ?_
                        refine z_istore (lv' := [(8, .int (iI 0)), (7, .int (iI 0)), (6, .int (iI ((((zvo s.1 (s.2.2.1 4) (t + 10 * r) r) : Nat) : Int)))), (5, .int (iI ((((zvo s.1 (s.2.2.1 4) (t + 9 * r) r) : Nat) : Int)))), (0, .ref ((B 0))), (1, .int (iI ((t : Int)))), (2, .int (iI ((r : Int)))), (3, .int (iI 11)), (4, .int (iI ((((zac s.1 (s.2.2.1 4) t r 8 / 2) : Nat) : Int))))]) (pc := 166) C dX5_tells_166 (by decide) rfl ?_
                        refine z_rowI (F' := (zU K3 q5 (((zit s.1 s.2.2.1 t r).2.2.2.1 : Nat) : Int))) (ws' := [((B 0), .inr (5, [.ref ((B 1)), .ref ((B 2)), .int (iI ((q0 : Int))), .ref ((B 3)), .int (iI ((q1 : Int))), .ref ((B 4)), .ref ((B 5)), .int (iI ((q2 : Int))), .int (iI ((q3 : Int))), .int (iI ((q4 : Int))), .ref ((B 6)), .ref ((B 7)), .int (iI ((q5 : Int))), .int (iI ((q6 : Int))), .ref ((B 8)), .ref ((B 9)), .ref ((B 10)), .ref ((B 11)), .ref ((B 12)), .int (iI ((q7 : Int)))])), cI G (B 1) 1547 M, cI G (B 8) 64 K0, cI G (B 9) 64 K1, cI G (B 10) 64 K2, cI G (B 11) 64 (zU K3 q5 (((zit s.1 s.2.2.1 t r).2.2.2.1 : Nat) : Int)), cI G (B 12) 64 K4]) 5 rfl (fun j _ => by rw [show (zit s.1 s.2.2.1 t r).2.2.2.1 = zdc s.1 t r (zst9 s.2.2.1) from rfl, hz9]) rfl ?_
                        refine z_aload_n (pc := 168) C dX5_tells_168 4 rfl ?_
                        refine z_get (pc := 169) C dX5_tells_169 zCl5 ffX5_tells_31 0 rfl rfl ?_
                        refine z_aload_n (pc := 172) C dX5_tells_172 4 rfl ?_
                        refine z_get (pc := 173) C dX5_tells_173 zCl5 ffX5_tells_109 0 rfl rfl ?_
                        refine z_iload (pc := 176) C dX5_tells_176 0 rfl ?_
                        refine z_if_eq (tgt := 185) (pc := 178) C dX5_tells_178 (by decide) (by decide) (fun c178 => ?_) (fun c178 => ?_)
                        · refine z_iload (pc := 185) C dX5_tells_185 2 rfl ?_
                          refine z_if_ne (tgt := 194) (pc := 187) C dX5_tells_187 (by decide) ⟨by omega, by omega⟩ (fun c187 => ?_) (fun c187 => ?_)
                          · refine z_iload (pc := 194) C dX5_tells_194 1 rfl ?_
                            refine z_if_eq (tgt := 203) (pc := 196) C dX5_tells_196 (by decide) (by decide) (fun c196 => ?_) (fun c196 => ?_)
                            · refine z_iconst (pc := 203) C dX5_tells_203 ?_
                              refine z_topi (y := (zit s.1 s.2.2.1 t r).1) (by omega) ?_
                              refine z_iast (ws' := [((B 0), .inr (5, [.ref ((B 1)), .ref ((B 2)), .int (iI ((q0 : Int))), .ref ((B 3)), .int (iI ((q1 : Int))), .ref ((B 4)), .ref ((B 5)), .int (iI ((q2 : Int))), .int (iI ((q3 : Int))), .int (iI ((q4 : Int))), .ref ((B 6)), .ref ((B 7)), .int (iI ((q5 : Int))), .int (iI ((q6 : Int))), .ref ((B 8)), .ref ((B 9)), .ref ((B 10)), .ref ((B 11)), .ref ((B 12)), .int (iI ((q7 : Int)))])), cI G (B 1) 1547 M, cI G (B 8) 64 (zU K0 q5 ((zit s.1 s.2.2.1 t r).1)), cI G (B 9) 64 K1, cI G (B 10) 64 K2, cI G (B 11) 64 (zU K3 q5 (((zit s.1 s.2.2.1 t r).2.2.2.1 : Nat) : Int)), cI G (B 12) 64 K4]) (pc := 204) C dX5_tells_204 2 rfl (q5) (by omega) (by omega) (by decide) rfl ?_
                              refine z_aload_n (pc := 205) C dX5_tells_205 4 rfl ?_
                              refine z_get (pc := 206) C dX5_tells_206 zCl5 ffX5_tells_34 0 rfl rfl ?_
                              refine z_aload_n (pc := 209) C dX5_tells_209 4 rfl ?_
                              refine z_get (pc := 210) C dX5_tells_210 zCl5 ffX5_tells_109 0 rfl rfl ?_
                              refine z_iload (pc := 213) C dX5_tells_213 8 rfl ?_
                              refine z_topi (y := (((zit s.1 s.2.2.1 t r).2.1 : Nat) : Int)) (by rw [hw1]) ?_
                              refine z_iast (ws' := [((B 0), .inr (5, [.ref ((B 1)), .ref ((B 2)), .int (iI ((q0 : Int))), .ref ((B 3)), .int (iI ((q1 : Int))), .ref ((B 4)), .ref ((B 5)), .int (iI ((q2 : Int))), .int (iI ((q3 : Int))), .int (iI ((q4 : Int))), .ref ((B 6)), .ref ((B 7)), .int (iI ((q5 : Int))), .int (iI ((q6 : Int))), .ref ((B 8)), .ref ((B 9)), .ref ((B 10)), .ref ((B 11)), .ref ((B 12)), .int (iI ((q7 : Int)))])), cI G (B 1) 1547 M, cI G (B 8) 64 (zU K0 q5 ((zit s.1 s.2.2.1 t r).1)), cI G (B 9) 64 (zU K1 q5 (((zit s.1 s.2.2.1 t r).2.1 : Nat) : Int)), cI G (B 10) 64 K2, cI G (B 11) 64 (zU K3 q5 (((zit s.1 s.2.2.1 t r).2.2.2.1 : Nat) : Int)), cI G (B 12) 64 K4]) (pc := 215) C dX5_tells_215 3 rfl (q5) (by omega) (by omega) (by decide) rfl ?_
                              refine z_aload_n (pc := 216) C dX5_tells_216 4 rfl ?_
                              refine z_get (pc := 217) C dX5_tells_217 zCl5 ffX5_tells_37 0 rfl rfl ?_
                              refine z_aload_n (pc := 220) C dX5_tells_220 4 rfl ?_
                              refine z_get (pc := 221) C dX5_tells_221 zCl5 ffX5_tells_109 0 rfl rfl ?_
                              refine z_iload_n (pc := 224) C dX5_tells_224 5 rfl ?_
                              refine z_topi (y := (((zit s.1 s.2.2.1 t r).2.2.1 : Nat) : Int)) (rfl) ?_
                              refine z_iast (ws' := [((B 0), .inr (5, [.ref ((B 1)), .ref ((B 2)), .int (iI ((q0 : Int))), .ref ((B 3)), .int (iI ((q1 : Int))), .ref ((B 4)), .ref ((B 5)), .int (iI ((q2 : Int))), .int (iI ((q3 : Int))), .int (iI ((q4 : Int))), .ref ((B 6)), .ref ((B 7)), .int (iI ((q5 : Int))), .int (iI ((q6 : Int))), .ref ((B 8)), .ref ((B 9)), .ref ((B 10)), .ref ((B 11)), .ref ((B 12)), .int (iI ((q7 : Int)))])), cI G (B 1) 1547 M, cI G (B 8) 64 (zU K0 q5 ((zit s.1 s.2.2.1 t r).1)), cI G (B 9) 64 (zU K1 q5 (((zit s.1 s.2.2.1 t r).2.1 : Nat) : Int)), cI G (B 10) 64 (zU K2 q5 (((zit s.1 s.2.2.1 t r).2.2.1 : Nat) : Int)), cI G (B 11) 64 (zU K3 q5 (((zit s.1 s.2.2.1 t r).2.2.2.1 : Nat) : Int)), cI G (B 12) 64 K4]) (pc := 225) C dX5_tells_225 4 rfl (q5) (by omega) (by omega) (by decide) rfl ?_
                              refine z_aload_n (pc := 226) C dX5_tells_226 4 rfl ?_
                              refine z_get (pc := 227) C dX5_tells_227 zCl5 ffX5_tells_43 0 rfl rfl ?_
                              refine z_aload_n (pc := 230) C dX5_tells_230 4 rfl ?_
                              refine z_get (pc := 231) C dX5_tells_231 zCl5 ffX5_tells_109 0 rfl rfl ?_
                              refine z_iload_n (pc := 234) C dX5_tells_234 5 rfl ?_
                              refine z_iload_n (pc := 235) C dX5_tells_235 7 rfl ?_
                              refine z_iconst (pc := 236) C dX5_tells_236 ?_
                              refine z_isub (pc := 237) C dX5_tells_237 ?_
                              refine z_iload_n (pc := 238) C dX5_tells_238 6 rfl ?_
                              refine z_imul (pc := 239) C dX5_tells_239 ?_
                              refine z_iadd (pc := 240) C dX5_tells_240 ?_
                              refine z_iconst (pc := 241) C dX5_tells_241 ?_
                              refine z_iload_n (pc := 242) C dX5_tells_242 6 rfl ?_
                              refine z_imul (pc := 243) C dX5_tells_243 ?_
                              refine z_iconst (pc := 244) C dX5_tells_244 ?_
                              refine z_idiv (pc := 245) C dX5_tells_245 ⟨by omega, by omega⟩ (by decide) ?_
                              refine z_iadd (pc := 246) C dX5_tells_246 ?_
                              refine z_topi (y := (((zit s.1 s.2.2.1 t r).2.2.2.2 : Nat) : Int)) (by show _ = ((zlast s.2.2.1 t r : Nat) : Int); unfold zlast; rw [hz9]; omega) ?_
                              refine z_iast (ws' := [((B 0), .inr (5, [.ref ((B 1)), .ref ((B 2)), .int (iI ((q0 : Int))), .ref ((B 3)), .int (iI ((q1 : Int))), .ref ((B 4)), .ref ((B 5)), .int (iI ((q2 : Int))), .int (iI ((q3 : Int))), .int (iI ((q4 : Int))), .ref ((B 6)), .ref ((B 7)), .int (iI ((q5 : Int))), .int (iI ((q6 : Int))), .ref ((B 8)), .ref ((B 9)), .ref ((B 10)), .ref ((B 11)), .ref ((B 12)), .int (iI ((q7 : Int)))])), cI G (B 1) 1547 M, cI G (B 8) 64 (zU K0 q5 ((zit s.1 s.2.2.1 t r).1)), cI G (B 9) 64 (zU K1 q5 (((zit s.1 s.2.2.1 t r).2.1 : Nat) : Int)), cI G (B 10) 64 (zU K2 q5 (((zit s.1 s.2.2.1 t r).2.2.1 : Nat) : Int)), cI G (B 11) 64 (zU K3 q5 (((zit s.1 s.2.2.1 t r).2.2.2.1 : Nat) : Int)), cI G (B 12) 64 (zU K4 q5 (((zit s.1 s.2.2.1 t r).2.2.2.2 : Nat) : Int))]) (pc := 247) C dX5_tells_247 6 rfl (q5) (by omega) (by omega) (by decide) rfl ?_
                              refine z_iconst (pc := 248) C dX5_tells_248 ?_
                              exact z_zret (pc := 249) C R0 (by decide) dX5_tells_249 (⟨rfl, rfl⟩)
                            · exfalso; omega
                          · refine z_iconst (pc := 190) C dX5_tells_190 ?_
                            refine z_goto (tgt := 204) (pc := 191) C dX5_tells_191 (by decide) ?_
                            refine z_topi (y := (zit s.1 s.2.2.1 t r).1) (by omega) ?_
                            refine z_iast (ws' := [((B 0), .inr (5, [.ref ((B 1)), .ref ((B 2)), .int (iI ((q0 : Int))), .ref ((B 3)), .int (iI ((q1 : Int))), .ref ((B 4)), .ref ((B 5)), .int (iI ((q2 : Int))), .int (iI ((q3 : Int))), .int (iI ((q4 : Int))), .ref ((B 6)), .ref ((B 7)), .int (iI ((q5 : Int))), .int (iI ((q6 : Int))), .ref ((B 8)), .ref ((B 9)), .ref ((B 10)), .ref ((B 11)), .ref ((B 12)), .int (iI ((q7 : Int)))])), cI G (B 1) 1547 M, cI G (B 8) 64 (zU K0 q5 ((zit s.1 s.2.2.1 t r).1)), cI G (B 9) 64 K1, cI G (B 10) 64 K2, cI G (B 11) 64 (zU K3 q5 (((zit s.1 s.2.2.1 t r).2.2.2.1 : Nat) : Int)), cI G (B 12) 64 K4]) (pc := 204) C dX5_tells_204 2 rfl (q5) (by omega) (by omega) (by decide) rfl ?_
                            refine z_aload_n (pc := 205) C dX5_tells_205 4 rfl ?_
                            refine z_get (pc := 206) C dX5_tells_206 zCl5 ffX5_tells_34 0 rfl rfl ?_
                            refine z_aload_n (pc := 209) C dX5_tells_209 4 rfl ?_
                            refine z_get (pc := 210) C dX5_tells_210 zCl5 ffX5_tells_109 0 rfl rfl ?_
                            refine z_iload (pc := 213) C dX5_tells_213 8 rfl ?_
                            refine z_topi (y := (((zit s.1 s.2.2.1 t r).2.1 : Nat) : Int)) (by rw [hw1]) ?_
                            refine z_iast (ws' := [((B 0), .inr (5, [.ref ((B 1)), .ref ((B 2)), .int (iI ((q0 : Int))), .ref ((B 3)), .int (iI ((q1 : Int))), .ref ((B 4)), .ref ((B 5)), .int (iI ((q2 : Int))), .int (iI ((q3 : Int))), .int (iI ((q4 : Int))), .ref ((B 6)), .ref ((B 7)), .int (iI ((q5 : Int))), .int (iI ((q6 : Int))), .ref ((B 8)), .ref ((B 9)), .ref ((B 10)), .ref ((B 11)), .ref ((B 12)), .int (iI ((q7 : Int)))])), cI G (B 1) 1547 M, cI G (B 8) 64 (zU K0 q5 ((zit s.1 s.2.2.1 t r).1)), cI G (B 9) 64 (zU K1 q5 (((zit s.1 s.2.2.1 t r).2.1 : Nat) : Int)), cI G (B 10) 64 K2, cI G (B 11) 64 (zU K3 q5 (((zit s.1 s.2.2.1 t r).2.2.2.1 : Nat) : Int)), cI G (B 12) 64 K4]) (pc := 215) C dX5_tells_215 3 rfl (q5) (by omega) (by omega) (by decide) rfl ?_
                            refine z_aload_n (pc := 216) C dX5_tells_216 4 rfl ?_
                            refine z_get (pc := 217) C dX5_tells_217 zCl5 ffX5_tells_37 0 rfl rfl ?_
                            refine z_aload_n (pc := 220) C dX5_tells_220 4 rfl ?_
                            refine z_get (pc := 221) C dX5_tells_221 zCl5 ffX5_tells_109 0 rfl rfl ?_
                            refine z_iload_n (pc := 224) C dX5_tells_224 5 rfl ?_
                            refine z_topi (y := (((zit s.1 s.2.2.1 t r).2.2.1 : Nat) : Int)) (rfl) ?_
                            refine z_iast (ws' := [((B 0), .inr (5, [.ref ((B 1)), .ref ((B 2)), .int (iI ((q0 : Int))), .ref ((B 3)), .int (iI ((q1 : Int))), .ref ((B 4)), .ref ((B 5)), .int (iI ((q2 : Int))), .int (iI ((q3 : Int))), .int (iI ((q4 : Int))), .ref ((B 6)), .ref ((B 7)), .int (iI ((q5 : Int))), .int (iI ((q6 : Int))), .ref ((B 8)), .ref ((B 9)), .ref ((B 10)), .ref ((B 11)), .ref ((B 12)), .int (iI ((q7 : Int)))])), cI G (B 1) 1547 M, cI G (B 8) 64 (zU K0 q5 ((zit s.1 s.2.2.1 t r).1)), cI G (B 9) 64 (zU K1 q5 (((zit s.1 s.2.2.1 t r).2.1 : Nat) : Int)), cI G (B 10) 64 (zU K2 q5 (((zit s.1 s.2.2.1 t r).2.2.1 : Nat) : Int)), cI G (B 11) 64 (zU K3 q5 (((zit s.1 s.2.2.1 t r).2.2.2.1 : Nat) : Int)), cI G (B 12) 64 K4]) (pc := 225) C dX5_tells_225 4 rfl (q5) (by omega) (by omega) (by decide) rfl ?_
                            refine z_aload_n (pc := 226) C dX5_tells_226 4 rfl ?_
                            refine z_get (pc := 227) C dX5_tells_227 zCl5 ffX5_tells_43 0 rfl rfl ?_
                            refine z_aload_n (pc := 230) C dX5_tells_230 4 rfl ?_
                            refine z_get (pc := 231) C dX5_tells_231 zCl5 ffX5_tells_109 0 rfl rfl ?_
                            refine z_iload_n (pc := 234) C dX5_tells_234 5 rfl ?_
                            refine z_iload_n (pc := 235) C dX5_tells_235 7 rfl ?_
                            refine z_iconst (pc := 236) C dX5_tells_236 ?_
                            refine z_isub (pc := 237) C dX5_tells_237 ?_
                            refine z_iload_n (pc := 238) C dX5_tells_238 6 rfl ?_
                            refine z_imul (pc := 239) C dX5_tells_239 ?_
                            refine z_iadd (pc := 240) C dX5_tells_240 ?_
                            refine z_iconst (pc := 241) C dX5_tells_241 ?_
                            refine z_iload_n (pc := 242) C dX5_tells_242 6 rfl ?_
                            refine z_imul (pc := 243) C dX5_tells_243 ?_
                            refine z_iconst (pc := 244) C dX5_tells_244 ?_
                            refine z_idiv (pc := 245) C dX5_tells_245 ⟨by omega, by omega⟩ (by decide) ?_
                            refine z_iadd (pc := 246) C dX5_tells_246 ?_
                            refine z_topi (y := (((zit s.1 s.2.2.1 t r).2.2.2.2 : Nat) : Int)) (by show _ = ((zlast s.2.2.1 t r : Nat) : Int); unfold zlast; rw [hz9]; omega) ?_
                            refine z_iast (ws' := [((B 0), .inr (5, [.ref ((B 1)), .ref ((B 2)), .int (iI ((q0 : Int))), .ref ((B 3)), .int (iI ((q1 : Int))), .ref ((B 4)), .ref ((B 5)), .int (iI ((q2 : Int))), .int (iI ((q3 : Int))), .int (iI ((q4 : Int))), .ref ((B 6)), .ref ((B 7)), .int (iI ((q5 : Int))), .int (iI ((q6 : Int))), .ref ((B 8)), .ref ((B 9)), .ref ((B 10)), .ref ((B 11)), .ref ((B 12)), .int (iI ((q7 : Int)))])), cI G (B 1) 1547 M, cI G (B 8) 64 (zU K0 q5 ((zit s.1 s.2.2.1 t r).1)), cI G (B 9) 64 (zU K1 q5 (((zit s.1 s.2.2.1 t r).2.1 : Nat) : Int)), cI G (B 10) 64 (zU K2 q5 (((zit s.1 s.2.2.1 t r).2.2.1 : Nat) : Int)), cI G (B 11) 64 (zU K3 q5 (((zit s.1 s.2.2.1 t r).2.2.2.1 : Nat) : Int)), cI G (B 12) 64 (zU K4 q5 (((zit s.1 s.2.2.1 t r).2.2.2.2 : Nat) : Int))]) (pc := 247) C dX5_tells_247 6 rfl (q5) (by omega) (by omega) (by decide) rfl ?_
                            refine z_iconst (pc := 248) C dX5_tells_248 ?_
                            exact z_zret (pc := 249) C R0 (by decide) dX5_tells_249 (⟨rfl, rfl⟩)
                        · exfalso; omega
                      · refine z_iload (pc := 156) C dX5_tells_156 1 rfl ?_
                        refine z_if_ne (tgt := 165) (pc := 158) C dX5_tells_158 (by decide) ⟨by omega, by omega⟩ (fun c158 => ?_) (fun c158 => ?_)
                        · refine z_iconst (pc := 165) C dX5_tells_165 ?_
                          refine z_istore (lv' := [(8, .int (iI 0)), (7, .int (iI 0)), (6, .int (iI ((((zvo s.1 (s.2.2.1 4) (t + 10 * r) r) : Nat) : Int)))), (5, .int (iI ((((zvo s.1 (s.2.2.1 4) (t + 9 * r) r) : Nat) : Int)))), (0, .ref ((B 0))), (1, .int (iI ((t : Int)))), (2, .int (iI ((r : Int)))), (3, .int (iI 11)), (4, .int (iI ((((zac s.1 (s.2.2.1 4) t r 8 / 2) : Nat) : Int))))]) (pc := 166) C dX5_tells_166 (by decide) rfl ?_
                          refine z_rowI (F' := (zU K3 q5 (((zit s.1 s.2.2.1 t r).2.2.2.1 : Nat) : Int))) (ws' := [((B 0), .inr (5, [.ref ((B 1)), .ref ((B 2)), .int (iI ((q0 : Int))), .ref ((B 3)), .int (iI ((q1 : Int))), .ref ((B 4)), .ref ((B 5)), .int (iI ((q2 : Int))), .int (iI ((q3 : Int))), .int (iI ((q4 : Int))), .ref ((B 6)), .ref ((B 7)), .int (iI ((q5 : Int))), .int (iI ((q6 : Int))), .ref ((B 8)), .ref ((B 9)), .ref ((B 10)), .ref ((B 11)), .ref ((B 12)), .int (iI ((q7 : Int)))])), cI G (B 1) 1547 M, cI G (B 8) 64 K0, cI G (B 9) 64 K1, cI G (B 10) 64 K2, cI G (B 11) 64 (zU K3 q5 (((zit s.1 s.2.2.1 t r).2.2.2.1 : Nat) : Int)), cI G (B 12) 64 K4]) 5 rfl (fun j _ => by rw [show (zit s.1 s.2.2.1 t r).2.2.2.1 = zdc s.1 t r (zst9 s.2.2.1) from rfl, hz9]) rfl ?_
                          refine z_aload_n (pc := 168) C dX5_tells_168 4 rfl ?_
                          refine z_get (pc := 169) C dX5_tells_169 zCl5 ffX5_tells_31 0 rfl rfl ?_
                          refine z_aload_n (pc := 172) C dX5_tells_172 4 rfl ?_
                          refine z_get (pc := 173) C dX5_tells_173 zCl5 ffX5_tells_109 0 rfl rfl ?_
                          refine z_iload (pc := 176) C dX5_tells_176 0 rfl ?_
                          refine z_if_eq (tgt := 185) (pc := 178) C dX5_tells_178 (by decide) (by decide) (fun c178 => ?_) (fun c178 => ?_)
                          · refine z_iload (pc := 185) C dX5_tells_185 2 rfl ?_
                            refine z_if_ne (tgt := 194) (pc := 187) C dX5_tells_187 (by decide) ⟨by omega, by omega⟩ (fun c187 => ?_) (fun c187 => ?_)
                            · refine z_iload (pc := 194) C dX5_tells_194 1 rfl ?_
                              refine z_if_eq (tgt := 203) (pc := 196) C dX5_tells_196 (by decide) (by decide) (fun c196 => ?_) (fun c196 => ?_)
                              · refine z_iconst (pc := 203) C dX5_tells_203 ?_
                                refine z_topi (y := (zit s.1 s.2.2.1 t r).1) (by omega) ?_
                                refine z_iast (ws' := [((B 0), .inr (5, [.ref ((B 1)), .ref ((B 2)), .int (iI ((q0 : Int))), .ref ((B 3)), .int (iI ((q1 : Int))), .ref ((B 4)), .ref ((B 5)), .int (iI ((q2 : Int))), .int (iI ((q3 : Int))), .int (iI ((q4 : Int))), .ref ((B 6)), .ref ((B 7)), .int (iI ((q5 : Int))), .int (iI ((q6 : Int))), .ref ((B 8)), .ref ((B 9)), .ref ((B 10)), .ref ((B 11)), .ref ((B 12)), .int (iI ((q7 : Int)))])), cI G (B 1) 1547 M, cI G (B 8) 64 (zU K0 q5 ((zit s.1 s.2.2.1 t r).1)), cI G (B 9) 64 K1, cI G (B 10) 64 K2, cI G (B 11) 64 (zU K3 q5 (((zit s.1 s.2.2.1 t r).2.2.2.1 : Nat) : Int)), cI G (B 12) 64 K4]) (pc := 204) C dX5_tells_204 2 rfl (q5) (by omega) (by omega) (by decide) rfl ?_
                                refine z_aload_n (pc := 205) C dX5_tells_205 4 rfl ?_
                                refine z_get (pc := 206) C dX5_tells_206 zCl5 ffX5_tells_34 0 rfl rfl ?_
                                refine z_aload_n (pc := 209) C dX5_tells_209 4 rfl ?_
                                refine z_get (pc := 210) C dX5_tells_210 zCl5 ffX5_tells_109 0 rfl rfl ?_
                                refine z_iload (pc := 213) C dX5_tells_213 8 rfl ?_
                                refine z_topi (y := (((zit s.1 s.2.2.1 t r).2.1 : Nat) : Int)) (by rw [hw1]) ?_
                                refine z_iast (ws' := [((B 0), .inr (5, [.ref ((B 1)), .ref ((B 2)), .int (iI ((q0 : Int))), .ref ((B 3)), .int (iI ((q1 : Int))), .ref ((B 4)), .ref ((B 5)), .int (iI ((q2 : Int))), .int (iI ((q3 : Int))), .int (iI ((q4 : Int))), .ref ((B 6)), .ref ((B 7)), .int (iI ((q5 : Int))), .int (iI ((q6 : Int))), .ref ((B 8)), .ref ((B 9)), .ref ((B 10)), .ref ((B 11)), .ref ((B 12)), .int (iI ((q7 : Int)))])), cI G (B 1) 1547 M, cI G (B 8) 64 (zU K0 q5 ((zit s.1 s.2.2.1 t r).1)), cI G (B 9) 64 (zU K1 q5 (((zit s.1 s.2.2.1 t r).2.1 : Nat) : Int)), cI G (B 10) 64 K2, cI G (B 11) 64 (zU K3 q5 (((zit s.1 s.2.2.1 t r).2.2.2.1 : Nat) : Int)), cI G (B 12) 64 K4]) (pc := 215) C dX5_tells_215 3 rfl (q5) (by omega) (by omega) (by decide) rfl ?_
                                refine z_aload_n (pc := 216) C dX5_tells_216 4 rfl ?_
                                refine z_get (pc := 217) C dX5_tells_217 zCl5 ffX5_tells_37 0 rfl rfl ?_
                                refine z_aload_n (pc := 220) C dX5_tells_220 4 rfl ?_
                                refine z_get (pc := 221) C dX5_tells_221 zCl5 ffX5_tells_109 0 rfl rfl ?_
                                refine z_iload_n (pc := 224) C dX5_tells_224 5 rfl ?_
                                refine z_topi (y := (((zit s.1 s.2.2.1 t r).2.2.1 : Nat) : Int)) (rfl) ?_
                                refine z_iast (ws' := [((B 0), .inr (5, [.ref ((B 1)), .ref ((B 2)), .int (iI ((q0 : Int))), .ref ((B 3)), .int (iI ((q1 : Int))), .ref ((B 4)), .ref ((B 5)), .int (iI ((q2 : Int))), .int (iI ((q3 : Int))), .int (iI ((q4 : Int))), .ref ((B 6)), .ref ((B 7)), .int (iI ((q5 : Int))), .int (iI ((q6 : Int))), .ref ((B 8)), .ref ((B 9)), .ref ((B 10)), .ref ((B 11)), .ref ((B 12)), .int (iI ((q7 : Int)))])), cI G (B 1) 1547 M, cI G (B 8) 64 (zU K0 q5 ((zit s.1 s.2.2.1 t r).1)), cI G (B 9) 64 (zU K1 q5 (((zit s.1 s.2.2.1 t r).2.1 : Nat) : Int)), cI G (B 10) 64 (zU K2 q5 (((zit s.1 s.2.2.1 t r).2.2.1 : Nat) : Int)), cI G (B 11) 64 (zU K3 q5 (((zit s.1 s.2.2.1 t r).2.2.2.1 : Nat) : Int)), cI G (B 12) 64 K4]) (pc := 225) C dX5_tells_225 4 rfl (q5) (by omega) (by omega) (by decide) rfl ?_
                                refine z_aload_n (pc := 226) C dX5_tells_226 4 rfl ?_
                                refine z_get (pc := 227) C dX5_tells_227 zCl5 ffX5_tells_43 0 rfl rfl ?_
                                refine z_aload_n (pc := 230) C dX5_tells_230 4 rfl ?_
                                refine z_get (pc := 231) C dX5_tells_231 zCl5 ffX5_tells_109 0 rfl rfl ?_
                                refine z_iload_n (pc := 234) C dX5_tells_234 5 rfl ?_
                                refine z_iload_n (pc := 235) C dX5_tells_235 7 rfl ?_
                                refine z_iconst (pc := 236) C dX5_tells_236 ?_
                                refine z_isub (pc := 237) C dX5_tells_237 ?_
                                refine z_iload_n (pc := 238) C dX5_tells_238 6 rfl ?_
                                refine z_imul (pc := 239) C dX5_tells_239 ?_
                                refine z_iadd (pc := 240) C dX5_tells_240 ?_
                                refine z_iconst (pc := 241) C dX5_tells_241 ?_
                                refine z_iload_n (pc := 242) C dX5_tells_242 6 rfl ?_
                                refine z_imul (pc := 243) C dX5_tells_243 ?_
                                refine z_iconst (pc := 244) C dX5_tells_244 ?_
                                refine z_idiv (pc := 245) C dX5_tells_245 ⟨by omega, by omega⟩ (by decide) ?_
                                refine z_iadd (pc := 246) C dX5_tells_246 ?_
                                refine z_topi (y := (((zit s.1 s.2.2.1 t r).2.2.2.2 : Nat) : Int)) (by show _ = ((zlast s.2.2.1 t r : Nat) : Int); unfold zlast; rw [hz9]; omega) ?_
                                refine z_iast (ws' := [((B 0), .inr (5, [.ref ((B 1)), .ref ((B 2)), .int (iI ((q0 : Int))), .ref ((B 3)), .int (iI ((q1 : Int))), .ref ((B 4)), .ref ((B 5)), .int (iI ((q2 : Int))), .int (iI ((q3 : Int))), .int (iI ((q4 : Int))), .ref ((B 6)), .ref ((B 7)), .int (iI ((q5 : Int))), .int (iI ((q6 : Int))), .ref ((B 8)), .ref ((B 9)), .ref ((B 10)), .ref ((B 11)), .ref ((B 12)), .int (iI ((q7 : Int)))])), cI G (B 1) 1547 M, cI G (B 8) 64 (zU K0 q5 ((zit s.1 s.2.2.1 t r).1)), cI G (B 9) 64 (zU K1 q5 (((zit s.1 s.2.2.1 t r).2.1 : Nat) : Int)), cI G (B 10) 64 (zU K2 q5 (((zit s.1 s.2.2.1 t r).2.2.1 : Nat) : Int)), cI G (B 11) 64 (zU K3 q5 (((zit s.1 s.2.2.1 t r).2.2.2.1 : Nat) : Int)), cI G (B 12) 64 (zU K4 q5 (((zit s.1 s.2.2.1 t r).2.2.2.2 : Nat) : Int))]) (pc := 247) C dX5_tells_247 6 rfl (q5) (by omega) (by omega) (by decide) rfl ?_
                                refine z_iconst (pc := 248) C dX5_tells_248 ?_
                                exact z_zret (pc := 249) C R0 (by decide) dX5_tells_249 (⟨rfl, rfl⟩)
                              · exfalso; omega
                            · refine z_iconst (pc := 190) C dX5_tells_190 ?_
                              refine z_goto (tgt := 204) (pc := 191) C dX5_tells_191 (by decide) ?_
                              refine z_topi (y := (zit s.1 s.2.2.1 t r).1) (by omega) ?_
                              refine z_iast (ws' := [((B 0), .inr (5, [.ref ((B 1)), .ref ((B 2)), .int (iI ((q0 : Int))), .ref ((B 3)), .int (iI ((q1 : Int))), .ref ((B 4)), .ref ((B 5)), .int (iI ((q2 : Int))), .int (iI ((q3 : Int))), .int (iI ((q4 : Int))), .ref ((B 6)), .ref ((B 7)), .int (iI ((q5 : Int))), .int (iI ((q6 : Int))), .ref ((B 8)), .ref ((B 9)), .ref ((B 10)), .ref ((B 11)), .ref ((B 12)), .int (iI ((q7 : Int)))])), cI G (B 1) 1547 M, cI G (B 8) 64 (zU K0 q5 ((zit s.1 s.2.2.1 t r).1)), cI G (B 9) 64 K1, cI G (B 10) 64 K2, cI G (B 11) 64 (zU K3 q5 (((zit s.1 s.2.2.1 t r).2.2.2.1 : Nat) : Int)), cI G (B 12) 64 K4]) (pc := 204) C dX5_tells_204 2 rfl (q5) (by omega) (by omega) (by decide) rfl ?_
                              refine z_aload_n (pc := 205) C dX5_tells_205 4 rfl ?_
                              refine z_get (pc := 206) C dX5_tells_206 zCl5 ffX5_tells_34 0 rfl rfl ?_
                              refine z_aload_n (pc := 209) C dX5_tells_209 4 rfl ?_
                              refine z_get (pc := 210) C dX5_tells_210 zCl5 ffX5_tells_109 0 rfl rfl ?_
                              refine z_iload (pc := 213) C dX5_tells_213 8 rfl ?_
                              refine z_topi (y := (((zit s.1 s.2.2.1 t r).2.1 : Nat) : Int)) (by rw [hw1]) ?_
                              refine z_iast (ws' := [((B 0), .inr (5, [.ref ((B 1)), .ref ((B 2)), .int (iI ((q0 : Int))), .ref ((B 3)), .int (iI ((q1 : Int))), .ref ((B 4)), .ref ((B 5)), .int (iI ((q2 : Int))), .int (iI ((q3 : Int))), .int (iI ((q4 : Int))), .ref ((B 6)), .ref ((B 7)), .int (iI ((q5 : Int))), .int (iI ((q6 : Int))), .ref ((B 8)), .ref ((B 9)), .ref ((B 10)), .ref ((B 11)), .ref ((B 12)), .int (iI ((q7 : Int)))])), cI G (B 1) 1547 M, cI G (B 8) 64 (zU K0 q5 ((zit s.1 s.2.2.1 t r).1)), cI G (B 9) 64 (zU K1 q5 (((zit s.1 s.2.2.1 t r).2.1 : Nat) : Int)), cI G (B 10) 64 K2, cI G (B 11) 64 (zU K3 q5 (((zit s.1 s.2.2.1 t r).2.2.2.1 : Nat) : Int)), cI G (B 12) 64 K4]) (pc := 215) C dX5_tells_215 3 rfl (q5) (by omega) (by omega) (by decide) rfl ?_
                              refine z_aload_n (pc := 216) C dX5_tells_216 4 rfl ?_
                              refine z_get (pc := 217) C dX5_tells_217 zCl5 ffX5_tells_37 0 rfl rfl ?_
                              refine z_aload_n (pc := 220) C dX5_tells_220 4 rfl ?_
                              refine z_get (pc := 221) C dX5_tells_221 zCl5 ffX5_tells_109 0 rfl rfl ?_
                              refine z_iload_n (pc := 224) C dX5_tells_224 5 rfl ?_
                              refine z_topi (y := (((zit s.1 s.2.2.1 t r).2.2.1 : Nat) : Int)) (rfl) ?_
                              refine z_iast (ws' := [((B 0), .inr (5, [.ref ((B 1)), .ref ((B 2)), .int (iI ((q0 : Int))), .ref ((B 3)), .int (iI ((q1 : Int))), .ref ((B 4)), .ref ((B 5)), .int (iI ((q2 : Int))), .int (iI ((q3 : Int))), .int (iI ((q4 : Int))), .ref ((B 6)), .ref ((B 7)), .int (iI ((q5 : Int))), .int (iI ((q6 : Int))), .ref ((B 8)), .ref ((B 9)), .ref ((B 10)), .ref ((B 11)), .ref ((B 12)), .int (iI ((q7 : Int)))])), cI G (B 1) 1547 M, cI G (B 8) 64 (zU K0 q5 ((zit s.1 s.2.2.1 t r).1)), cI G (B 9) 64 (zU K1 q5 (((zit s.1 s.2.2.1 t r).2.1 : Nat) : Int)), cI G (B 10) 64 (zU K2 q5 (((zit s.1 s.2.2.1 t r).2.2.1 : Nat) : Int)), cI G (B 11) 64 (zU K3 q5 (((zit s.1 s.2.2.1 t r).2.2.2.1 : Nat) : Int)), cI G (B 12) 64 K4]) (pc := 225) C dX5_tells_225 4 rfl (q5) (by omega) (by omega) (by decide) rfl ?_
                              refine z_aload_n (pc := 226) C dX5_tells_226 4 rfl ?_
                              refine z_get (pc := 227) C dX5_tells_227 zCl5 ffX5_tells_43 0 rfl rfl ?_
                              refine z_aload_n (pc := 230) C dX5_tells_230 4 rfl ?_
                              refine z_get (pc := 231) C dX5_tells_231 zCl5 ffX5_tells_109 0 rfl rfl ?_
                              refine z_iload_n (pc := 234) C dX5_tells_234 5 rfl ?_
                              refine z_iload_n (pc := 235) C dX5_tells_235 7 rfl ?_
                              refine z_iconst (pc := 236) C dX5_tells_236 ?_
                              refine z_isub (pc := 237) C dX5_tells_237 ?_
                              refine z_iload_n (pc := 238) C dX5_tells_238 6 rfl ?_
                              refine z_imul (pc := 239) C dX5_tells_239 ?_
                              refine z_iadd (pc := 240) C dX5_tells_240 ?_
                              refine z_iconst (pc := 241) C dX5_tells_241 ?_
                              refine z_iload_n (pc := 242) C dX5_tells_242 6 rfl ?_
                              refine z_imul (pc := 243) C dX5_tells_243 ?_
                              refine z_iconst (pc := 244) C dX5_tells_244 ?_
                              refine z_idiv (pc := 245) C dX5_tells_245 ⟨by omega, by omega⟩ (by decide) ?_
                              refine z_iadd (pc := 246) C dX5_tells_246 ?_
                              refine z_topi (y := (((zit s.1 s.2.2.1 t r).2.2.2.2 : Nat) : Int)) (by show _ = ((zlast s.2.2.1 t r : Nat) : Int); unfold zlast; rw [hz9]; omega) ?_
                              refine z_iast (ws' := [((B 0), .inr (5, [.ref ((B 1)), .ref ((B 2)), .int (iI ((q0 : Int))), .ref ((B 3)), .int (iI ((q1 : Int))), .ref ((B 4)), .ref ((B 5)), .int (iI ((q2 : Int))), .int (iI ((q3 : Int))), .int (iI ((q4 : Int))), .ref ((B 6)), .ref ((B 7)), .int (iI ((q5 : Int))), .int (iI ((q6 : Int))), .ref ((B 8)), .ref ((B 9)), .ref ((B 10)), .ref ((B 11)), .ref ((B 12)), .int (iI ((q7 : Int)))])), cI G (B 1) 1547 M, cI G (B 8) 64 (zU K0 q5 ((zit s.1 s.2.2.1 t r).1)), cI G (B 9) 64 (zU K1 q5 (((zit s.1 s.2.2.1 t r).2.1 : Nat) : Int)), cI G (B 10) 64 (zU K2 q5 (((zit s.1 s.2.2.1 t r).2.2.1 : Nat) : Int)), cI G (B 11) 64 (zU K3 q5 (((zit s.1 s.2.2.1 t r).2.2.2.1 : Nat) : Int)), cI G (B 12) 64 (zU K4 q5 (((zit s.1 s.2.2.1 t r).2.2.2.2 : Nat) : Int))]) (pc := 247) C dX5_tells_247 6 rfl (q5) (by omega) (by omega) (by decide) rfl ?_
                              refine z_iconst (pc := 248) C dX5_tells_248 ?_
                              exact z_zret (pc := 249) C R0 (by decide) dX5_tells_249 (⟨rfl, rfl⟩)
                          · exfalso; omega
                        · refine z_iconst (pc := 161) C dX5_tells_161 ?_
                          refine z_goto (tgt := 166) (pc := 162) C dX5_tells_162 (by decide) ?_
                          refine z_istore (lv' := [(8, .int (iI 1)), (7, .int (iI 0)), (6, .int (iI ((((zvo s.1 (s.2.2.1 4) (t + 10 * r) r) : Nat) : Int)))), (5, .int (iI ((((zvo s.1 (s.2.2.1 4) (t + 9 * r) r) : Nat) : Int)))), (0, .ref ((B 0))), (1, .int (iI ((t : Int)))), (2, .int (iI ((r : Int)))), (3, .int (iI 11)), (4, .int (iI ((((zac s.1 (s.2.2.1 4) t r 8 / 2) : Nat) : Int))))]) (pc := 166) C dX5_tells_166 (by decide) rfl ?_
                          refine z_rowI (F' := (zU K3 q5 (((zit s.1 s.2.2.1 t r).2.2.2.1 : Nat) : Int))) (ws' := [((B 0), .inr (5, [.ref ((B 1)), .ref ((B 2)), .int (iI ((q0 : Int))), .ref ((B 3)), .int (iI ((q1 : Int))), .ref ((B 4)), .ref ((B 5)), .int (iI ((q2 : Int))), .int (iI ((q3 : Int))), .int (iI ((q4 : Int))), .ref ((B 6)), .ref ((B 7)), .int (iI ((q5 : Int))), .int (iI ((q6 : Int))), .ref ((B 8)), .ref ((B 9)), .ref ((B 10)), .ref ((B 11)), .ref ((B 12)), .int (iI ((q7 : Int)))])), cI G (B 1) 1547 M, cI G (B 8) 64 K0, cI G (B 9) 64 K1, cI G (B 10) 64 K2, cI G (B 11) 64 (zU K3 q5 (((zit s.1 s.2.2.1 t r).2.2.2.1 : Nat) : Int)), cI G (B 12) 64 K4]) 5 rfl (fun j _ => by rw [show (zit s.1 s.2.2.1 t r).2.2.2.1 = zdc s.1 t r (zst9 s.2.2.1) from rfl, hz9]) rfl ?_
                          refine z_aload_n (pc := 168) C dX5_tells_168 4 rfl ?_
                          refine z_get (pc := 169) C dX5_tells_169 zCl5 ffX5_tells_31 0 rfl rfl ?_
                          refine z_aload_n (pc := 172) C dX5_tells_172 4 rfl ?_
                          refine z_get (pc := 173) C dX5_tells_173 zCl5 ffX5_tells_109 0 rfl rfl ?_
                          refine z_iload (pc := 176) C dX5_tells_176 0 rfl ?_
                          refine z_if_eq (tgt := 185) (pc := 178) C dX5_tells_178 (by decide) (by decide) (fun c178 => ?_) (fun c178 => ?_)
                          · exfalso; omega
                          · refine z_iconst (pc := 181) C dX5_tells_181 ?_
                            refine z_goto (tgt := 204) (pc := 182) C dX5_tells_182 (by decide) ?_
                            refine z_topi (y := (zit s.1 s.2.2.1 t r).1) (by omega) ?_
                            refine z_iast (ws' := [((B 0), .inr (5, [.ref ((B 1)), .ref ((B 2)), .int (iI ((q0 : Int))), .ref ((B 3)), .int (iI ((q1 : Int))), .ref ((B 4)), .ref ((B 5)), .int (iI ((q2 : Int))), .int (iI ((q3 : Int))), .int (iI ((q4 : Int))), .ref ((B 6)), .ref ((B 7)), .int (iI ((q5 : Int))), .int (iI ((q6 : Int))), .ref ((B 8)), .ref ((B 9)), .ref ((B 10)), .ref ((B 11)), .ref ((B 12)), .int (iI ((q7 : Int)))])), cI G (B 1) 1547 M, cI G (B 8) 64 (zU K0 q5 ((zit s.1 s.2.2.1 t r).1)), cI G (B 9) 64 K1, cI G (B 10) 64 K2, cI G (B 11) 64 (zU K3 q5 (((zit s.1 s.2.2.1 t r).2.2.2.1 : Nat) : Int)), cI G (B 12) 64 K4]) (pc := 204) C dX5_tells_204 2 rfl (q5) (by omega) (by omega) (by decide) rfl ?_
                            refine z_aload_n (pc := 205) C dX5_tells_205 4 rfl ?_
                            refine z_get (pc := 206) C dX5_tells_206 zCl5 ffX5_tells_34 0 rfl rfl ?_
                            refine z_aload_n (pc := 209) C dX5_tells_209 4 rfl ?_
                            refine z_get (pc := 210) C dX5_tells_210 zCl5 ffX5_tells_109 0 rfl rfl ?_
                            refine z_iload (pc := 213) C dX5_tells_213 8 rfl ?_
                            refine z_topi (y := (((zit s.1 s.2.2.1 t r).2.1 : Nat) : Int)) (by rw [hw1]) ?_
                            refine z_iast (ws' := [((B 0), .inr (5, [.ref ((B 1)), .ref ((B 2)), .int (iI ((q0 : Int))), .ref ((B 3)), .int (iI ((q1 : Int))), .ref ((B 4)), .ref ((B 5)), .int (iI ((q2 : Int))), .int (iI ((q3 : Int))), .int (iI ((q4 : Int))), .ref ((B 6)), .ref ((B 7)), .int (iI ((q5 : Int))), .int (iI ((q6 : Int))), .ref ((B 8)), .ref ((B 9)), .ref ((B 10)), .ref ((B 11)), .ref ((B 12)), .int (iI ((q7 : Int)))])), cI G (B 1) 1547 M, cI G (B 8) 64 (zU K0 q5 ((zit s.1 s.2.2.1 t r).1)), cI G (B 9) 64 (zU K1 q5 (((zit s.1 s.2.2.1 t r).2.1 : Nat) : Int)), cI G (B 10) 64 K2, cI G (B 11) 64 (zU K3 q5 (((zit s.1 s.2.2.1 t r).2.2.2.1 : Nat) : Int)), cI G (B 12) 64 K4]) (pc := 215) C dX5_tells_215 3 rfl (q5) (by omega) (by omega) (by decide) rfl ?_
                            refine z_aload_n (pc := 216) C dX5_tells_216 4 rfl ?_
                            refine z_get (pc := 217) C dX5_tells_217 zCl5 ffX5_tells_37 0 rfl rfl ?_
                            refine z_aload_n (pc := 220) C dX5_tells_220 4 rfl ?_
                            refine z_get (pc := 221) C dX5_tells_221 zCl5 ffX5_tells_109 0 rfl rfl ?_
                            refine z_iload_n (pc := 224) C dX5_tells_224 5 rfl ?_
                            refine z_topi (y := (((zit s.1 s.2.2.1 t r).2.2.1 : Nat) : Int)) (rfl) ?_
                            refine z_iast (ws' := [((B 0), .inr (5, [.ref ((B 1)), .ref ((B 2)), .int (iI ((q0 : Int))), .ref ((B 3)), .int (iI ((q1 : Int))), .ref ((B 4)), .ref ((B 5)), .int (iI ((q2 : Int))), .int (iI ((q3 : Int))), .int (iI ((q4 : Int))), .ref ((B 6)), .ref ((B 7)), .int (iI ((q5 : Int))), .int (iI ((q6 : Int))), .ref ((B 8)), .ref ((B 9)), .ref ((B 10)), .ref ((B 11)), .ref ((B 12)), .int (iI ((q7 : Int)))])), cI G (B 1) 1547 M, cI G (B 8) 64 (zU K0 q5 ((zit s.1 s.2.2.1 t r).1)), cI G (B 9) 64 (zU K1 q5 (((zit s.1 s.2.2.1 t r).2.1 : Nat) : Int)), cI G (B 10) 64 (zU K2 q5 (((zit s.1 s.2.2.1 t r).2.2.1 : Nat) : Int)), cI G (B 11) 64 (zU K3 q5 (((zit s.1 s.2.2.1 t r).2.2.2.1 : Nat) : Int)), cI G (B 12) 64 K4]) (pc := 225) C dX5_tells_225 4 rfl (q5) (by omega) (by omega) (by decide) rfl ?_
                            refine z_aload_n (pc := 226) C dX5_tells_226 4 rfl ?_
                            refine z_get (pc := 227) C dX5_tells_227 zCl5 ffX5_tells_43 0 rfl rfl ?_
                            refine z_aload_n (pc := 230) C dX5_tells_230 4 rfl ?_
                            refine z_get (pc := 231) C dX5_tells_231 zCl5 ffX5_tells_109 0 rfl rfl ?_
                            refine z_iload_n (pc := 234) C dX5_tells_234 5 rfl ?_
                            refine z_iload_n (pc := 235) C dX5_tells_235 7 rfl ?_
                            refine z_iconst (pc := 236) C dX5_tells_236 ?_
                            refine z_isub (pc := 237) C dX5_tells_237 ?_
                            refine z_iload_n (pc := 238) C dX5_tells_238 6 rfl ?_
                            refine z_imul (pc := 239) C dX5_tells_239 ?_
                            refine z_iadd (pc := 240) C dX5_tells_240 ?_
                            refine z_iconst (pc := 241) C dX5_tells_241 ?_
                            refine z_iload_n (pc := 242) C dX5_tells_242 6 rfl ?_
                            refine z_imul (pc := 243) C dX5_tells_243 ?_
                            refine z_iconst (pc := 244) C dX5_tells_244 ?_
                            refine z_idiv (pc := 245) C dX5_tells_245 ⟨by omega, by omega⟩ (by decide) ?_
                            refine z_iadd (pc := 246) C dX5_tells_246 ?_
                            refine z_topi (y := (((zit s.1 s.2.2.1 t r).2.2.2.2 : Nat) : Int)) (by show _ = ((zlast s.2.2.1 t r : Nat) : Int); unfold zlast; rw [hz9]; omega) ?_
                            refine z_iast (ws' := [((B 0), .inr (5, [.ref ((B 1)), .ref ((B 2)), .int (iI ((q0 : Int))), .ref ((B 3)), .int (iI ((q1 : Int))), .ref ((B 4)), .ref ((B 5)), .int (iI ((q2 : Int))), .int (iI ((q3 : Int))), .int (iI ((q4 : Int))), .ref ((B 6)), .ref ((B 7)), .int (iI ((q5 : Int))), .int (iI ((q6 : Int))), .ref ((B 8)), .ref ((B 9)), .ref ((B 10)), .ref ((B 11)), .ref ((B 12)), .int (iI ((q7 : Int)))])), cI G (B 1) 1547 M, cI G (B 8) 64 (zU K0 q5 ((zit s.1 s.2.2.1 t r).1)), cI G (B 9) 64 (zU K1 q5 (((zit s.1 s.2.2.1 t r).2.1 : Nat) : Int)), cI G (B 10) 64 (zU K2 q5 (((zit s.1 s.2.2.1 t r).2.2.1 : Nat) : Int)), cI G (B 11) 64 (zU K3 q5 (((zit s.1 s.2.2.1 t r).2.2.2.1 : Nat) : Int)), cI G (B 12) 64 (zU K4 q5 (((zit s.1 s.2.2.1 t r).2.2.2.2 : Nat) : Int))]) (pc := 247) C dX5_tells_247 6 rfl (q5) (by omega) (by omega) (by decide) rfl ?_
                            refine z_iconst (pc := 248) C dX5_tells_248 ?_
                            exact z_zret (pc := 249) C R0 (by decide) dX5_tells_249 (⟨rfl, rfl⟩)
                  · refine z_iconst (pc := 139) C dX5_tells_139 ?_
                    refine z_goto (tgt := 144) (pc := 140) C dX5_tells_140 (by decide) ?_
                    refine z_istore (lv' := [(7, .int (iI 1)), (6, .int (iI ((((zvo s.1 (s.2.2.1 4) (t + 10 * r) r) : Nat) : Int)))), (5, .int (iI ((((zvo s.1 (s.2.2.1 4) (t + 9 * r) r) : Nat) : Int)))), (0, .ref ((B 0))), (1, .int (iI ((t : Int)))), (2, .int (iI ((r : Int)))), (3, .int (iI 11)), (4, .int (iI ((((zac s.1 (s.2.2.1 4) t r 8 / 2) : Nat) : Int))))]) (pc := 144) C dX5_tells_144 (by decide) rfl ?_
                    refine z_iload (pc := 146) C dX5_tells_146 7 rfl ?_
                    refine z_if_ne (tgt := 165) (pc := 148) C dX5_tells_148 (by decide) ⟨by omega, by omega⟩ (fun c148 => ?_) (fun c148 => ?_)
                    · refine z_iconst (pc := 165) C dX5_tells_165 ?_
                      refine z_istore (lv' := [(8, .int (iI 0)), (7, .int (iI 1)), (6, .int (iI ((((zvo s.1 (s.2.2.1 4) (t + 10 * r) r) : Nat) : Int)))), (5, .int (iI ((((zvo s.1 (s.2.2.1 4) (t + 9 * r) r) : Nat) : Int)))), (0, .ref ((B 0))), (1, .int (iI ((t : Int)))), (2, .int (iI ((r : Int)))), (3, .int (iI 11)), (4, .int (iI ((((zac s.1 (s.2.2.1 4) t r 8 / 2) : Nat) : Int))))]) (pc := 166) C dX5_tells_166 (by decide) rfl ?_
                      refine z_rowI (F' := (zU K3 q5 (((zit s.1 s.2.2.1 t r).2.2.2.1 : Nat) : Int))) (ws' := [((B 0), .inr (5, [.ref ((B 1)), .ref ((B 2)), .int (iI ((q0 : Int))), .ref ((B 3)), .int (iI ((q1 : Int))), .ref ((B 4)), .ref ((B 5)), .int (iI ((q2 : Int))), .int (iI ((q3 : Int))), .int (iI ((q4 : Int))), .ref ((B 6)), .ref ((B 7)), .int (iI ((q5 : Int))), .int (iI ((q6 : Int))), .ref ((B 8)), .ref ((B 9)), .ref ((B 10)), .ref ((B 11)), .ref ((B 12)), .int (iI ((q7 : Int)))])), cI G (B 1) 1547 M, cI G (B 8) 64 K0, cI G (B 9) 64 K1, cI G (B 10) 64 K2, cI G (B 11) 64 (zU K3 q5 (((zit s.1 s.2.2.1 t r).2.2.2.1 : Nat) : Int)), cI G (B 12) 64 K4]) 5 rfl (fun j _ => by rw [show (zit s.1 s.2.2.1 t r).2.2.2.1 = zdc s.1 t r (zst9 s.2.2.1) from rfl, hz9]) rfl ?_
                      refine z_aload_n (pc := 168) C dX5_tells_168 4 rfl ?_
                      refine z_get (pc := 169) C dX5_tells_169 zCl5 ffX5_tells_31 0 rfl rfl ?_
                      refine z_aload_n (pc := 172) C dX5_tells_172 4 rfl ?_
                      refine z_get (pc := 173) C dX5_tells_173 zCl5 ffX5_tells_109 0 rfl rfl ?_
                      refine z_iload (pc := 176) C dX5_tells_176 0 rfl ?_
                      refine z_if_eq (tgt := 185) (pc := 178) C dX5_tells_178 (by decide) (by decide) (fun c178 => ?_) (fun c178 => ?_)
                      · refine z_iload (pc := 185) C dX5_tells_185 2 rfl ?_
                        refine z_if_ne (tgt := 194) (pc := 187) C dX5_tells_187 (by decide) ⟨by omega, by omega⟩ (fun c187 => ?_) (fun c187 => ?_)
                        · refine z_iload (pc := 194) C dX5_tells_194 1 rfl ?_
                          refine z_if_eq (tgt := 203) (pc := 196) C dX5_tells_196 (by decide) (by decide) (fun c196 => ?_) (fun c196 => ?_)
                          · exfalso; omega
                          · refine z_iconst (pc := 199) C dX5_tells_199 ?_
                            refine z_goto (tgt := 204) (pc := 200) C dX5_tells_200 (by decide) ?_
                            refine z_topi (y := (zit s.1 s.2.2.1 t r).1) (by omega) ?_
                            refine z_iast (ws' := [((B 0), .inr (5, [.ref ((B 1)), .ref ((B 2)), .int (iI ((q0 : Int))), .ref ((B 3)), .int (iI ((q1 : Int))), .ref ((B 4)), .ref ((B 5)), .int (iI ((q2 : Int))), .int (iI ((q3 : Int))), .int (iI ((q4 : Int))), .ref ((B 6)), .ref ((B 7)), .int (iI ((q5 : Int))), .int (iI ((q6 : Int))), .ref ((B 8)), .ref ((B 9)), .ref ((B 10)), .ref ((B 11)), .ref ((B 12)), .int (iI ((q7 : Int)))])), cI G (B 1) 1547 M, cI G (B 8) 64 (zU K0 q5 ((zit s.1 s.2.2.1 t r).1)), cI G (B 9) 64 K1, cI G (B 10) 64 K2, cI G (B 11) 64 (zU K3 q5 (((zit s.1 s.2.2.1 t r).2.2.2.1 : Nat) : Int)), cI G (B 12) 64 K4]) (pc := 204) C dX5_tells_204 2 rfl (q5) (by omega) (by omega) (by decide) rfl ?_
                            refine z_aload_n (pc := 205) C dX5_tells_205 4 rfl ?_
                            refine z_get (pc := 206) C dX5_tells_206 zCl5 ffX5_tells_34 0 rfl rfl ?_
                            refine z_aload_n (pc := 209) C dX5_tells_209 4 rfl ?_
                            refine z_get (pc := 210) C dX5_tells_210 zCl5 ffX5_tells_109 0 rfl rfl ?_
                            refine z_iload (pc := 213) C dX5_tells_213 8 rfl ?_
                            refine z_topi (y := (((zit s.1 s.2.2.1 t r).2.1 : Nat) : Int)) (by rw [hw1]) ?_
                            refine z_iast (ws' := [((B 0), .inr (5, [.ref ((B 1)), .ref ((B 2)), .int (iI ((q0 : Int))), .ref ((B 3)), .int (iI ((q1 : Int))), .ref ((B 4)), .ref ((B 5)), .int (iI ((q2 : Int))), .int (iI ((q3 : Int))), .int (iI ((q4 : Int))), .ref ((B 6)), .ref ((B 7)), .int (iI ((q5 : Int))), .int (iI ((q6 : Int))), .ref ((B 8)), .ref ((B 9)), .ref ((B 10)), .ref ((B 11)), .ref ((B 12)), .int (iI ((q7 : Int)))])), cI G (B 1) 1547 M, cI G (B 8) 64 (zU K0 q5 ((zit s.1 s.2.2.1 t r).1)), cI G (B 9) 64 (zU K1 q5 (((zit s.1 s.2.2.1 t r).2.1 : Nat) : Int)), cI G (B 10) 64 K2, cI G (B 11) 64 (zU K3 q5 (((zit s.1 s.2.2.1 t r).2.2.2.1 : Nat) : Int)), cI G (B 12) 64 K4]) (pc := 215) C dX5_tells_215 3 rfl (q5) (by omega) (by omega) (by decide) rfl ?_
                            refine z_aload_n (pc := 216) C dX5_tells_216 4 rfl ?_
                            refine z_get (pc := 217) C dX5_tells_217 zCl5 ffX5_tells_37 0 rfl rfl ?_
                            refine z_aload_n (pc := 220) C dX5_tells_220 4 rfl ?_
                            refine z_get (pc := 221) C dX5_tells_221 zCl5 ffX5_tells_109 0 rfl rfl ?_
                            refine z_iload_n (pc := 224) C dX5_tells_224 5 rfl ?_
                            refine z_topi (y := (((zit s.1 s.2.2.1 t r).2.2.1 : Nat) : Int)) (rfl) ?_
                            refine z_iast (ws' := [((B 0), .inr (5, [.ref ((B 1)), .ref ((B 2)), .int (iI ((q0 : Int))), .ref ((B 3)), .int (iI ((q1 : Int))), .ref ((B 4)), .ref ((B 5)), .int (iI ((q2 : Int))), .int (iI ((q3 : Int))), .int (iI ((q4 : Int))), .ref ((B 6)), .ref ((B 7)), .int (iI ((q5 : Int))), .int (iI ((q6 : Int))), .ref ((B 8)), .ref ((B 9)), .ref ((B 10)), .ref ((B 11)), .ref ((B 12)), .int (iI ((q7 : Int)))])), cI G (B 1) 1547 M, cI G (B 8) 64 (zU K0 q5 ((zit s.1 s.2.2.1 t r).1)), cI G (B 9) 64 (zU K1 q5 (((zit s.1 s.2.2.1 t r).2.1 : Nat) : Int)), cI G (B 10) 64 (zU K2 q5 (((zit s.1 s.2.2.1 t r).2.2.1 : Nat) : Int)), cI G (B 11) 64 (zU K3 q5 (((zit s.1 s.2.2.1 t r).2.2.2.1 : Nat) : Int)), cI G (B 12) 64 K4]) (pc := 225) C dX5_tells_225 4 rfl (q5) (by omega) (by omega) (by decide) rfl ?_
                            refine z_aload_n (pc := 226) C dX5_tells_226 4 rfl ?_
                            refine z_get (pc := 227) C dX5_tells_227 zCl5 ffX5_tells_43 0 rfl rfl ?_
                            refine z_aload_n (pc := 230) C dX5_tells_230 4 rfl ?_
                            refine z_get (pc := 231) C dX5_tells_231 zCl5 ffX5_tells_109 0 rfl rfl ?_
                            refine z_iload_n (pc := 234) C dX5_tells_234 5 rfl ?_
                            refine z_iload_n (pc := 235) C dX5_tells_235 7 rfl ?_
                            refine z_iconst (pc := 236) C dX5_tells_236 ?_
                            refine z_isub (pc := 237) C dX5_tells_237 ?_
                            refine z_iload_n (pc := 238) C dX5_tells_238 6 rfl ?_
                            refine z_imul (pc := 239) C dX5_tells_239 ?_
                            refine z_iadd (pc := 240) C dX5_tells_240 ?_
                            refine z_iconst (pc := 241) C dX5_tells_241 ?_
                            refine z_iload_n (pc := 242) C dX5_tells_242 6 rfl ?_
                            refine z_imul (pc := 243) C dX5_tells_243 ?_
                            refine z_iconst (pc := 244) C dX5_tells_244 ?_
                            refine z_idiv (pc := 245) C dX5_tells_245 ⟨by omega, by omega⟩ (by decide) ?_
                            refine z_iadd (pc := 246) C dX5_tells_246 ?_
                            refine z_topi (y := (((zit s.1 s.2.2.1 t r).2.2.2.2 : Nat) : Int)) (by show _ = ((zlast s.2.2.1 t r : Nat) : Int); unfold zlast; rw [hz9]; omega) ?_
                            refine z_iast (ws' := [((B 0), .inr (5, [.ref ((B 1)), .ref ((B 2)), .int (iI ((q0 : Int))), .ref ((B 3)), .int (iI ((q1 : Int))), .ref ((B 4)), .ref ((B 5)), .int (iI ((q2 : Int))), .int (iI ((q3 : Int))), .int (iI ((q4 : Int))), .ref ((B 6)), .ref ((B 7)), .int (iI ((q5 : Int))), .int (iI ((q6 : Int))), .ref ((B 8)), .ref ((B 9)), .ref ((B 10)), .ref ((B 11)), .ref ((B 12)), .int (iI ((q7 : Int)))])), cI G (B 1) 1547 M, cI G (B 8) 64 (zU K0 q5 ((zit s.1 s.2.2.1 t r).1)), cI G (B 9) 64 (zU K1 q5 (((zit s.1 s.2.2.1 t r).2.1 : Nat) : Int)), cI G (B 10) 64 (zU K2 q5 (((zit s.1 s.2.2.1 t r).2.2.1 : Nat) : Int)), cI G (B 11) 64 (zU K3 q5 (((zit s.1 s.2.2.1 t r).2.2.2.1 : Nat) : Int)), cI G (B 12) 64 (zU K4 q5 (((zit s.1 s.2.2.1 t r).2.2.2.2 : Nat) : Int))]) (pc := 247) C dX5_tells_247 6 rfl (q5) (by omega) (by omega) (by decide) rfl ?_
                            refine z_iconst (pc := 248) C dX5_tells_248 ?_
                            exact z_zret (pc := 249) C R0 (by decide) dX5_tells_249 (⟨rfl, rfl⟩)
                        · refine z_iconst (pc := 190) C dX5_tells_190 ?_
                          refine z_goto (tgt := 204) (pc := 191) C dX5_tells_191 (by decide) ?_
                          refine z_topi (y := (zit s.1 s.2.2.1 t r).1) (by omega) ?_
                          refine z_iast (ws' := [((B 0), .inr (5, [.ref ((B 1)), .ref ((B 2)), .int (iI ((q0 : Int))), .ref ((B 3)), .int (iI ((q1 : Int))), .ref ((B 4)), .ref ((B 5)), .int (iI ((q2 : Int))), .int (iI ((q3 : Int))), .int (iI ((q4 : Int))), .ref ((B 6)), .ref ((B 7)), .int (iI ((q5 : Int))), .int (iI ((q6 : Int))), .ref ((B 8)), .ref ((B 9)), .ref ((B 10)), .ref ((B 11)), .ref ((B 12)), .int (iI ((q7 : Int)))])), cI G (B 1) 1547 M, cI G (B 8) 64 (zU K0 q5 ((zit s.1 s.2.2.1 t r).1)), cI G (B 9) 64 K1, cI G (B 10) 64 K2, cI G (B 11) 64 (zU K3 q5 (((zit s.1 s.2.2.1 t r).2.2.2.1 : Nat) : Int)), cI G (B 12) 64 K4]) (pc := 204) C dX5_tells_204 2 rfl (q5) (by omega) (by omega) (by decide) rfl ?_
                          refine z_aload_n (pc := 205) C dX5_tells_205 4 rfl ?_
                          refine z_get (pc := 206) C dX5_tells_206 zCl5 ffX5_tells_34 0 rfl rfl ?_
                          refine z_aload_n (pc := 209) C dX5_tells_209 4 rfl ?_
                          refine z_get (pc := 210) C dX5_tells_210 zCl5 ffX5_tells_109 0 rfl rfl ?_
                          refine z_iload (pc := 213) C dX5_tells_213 8 rfl ?_
                          refine z_topi (y := (((zit s.1 s.2.2.1 t r).2.1 : Nat) : Int)) (by rw [hw1]) ?_
                          refine z_iast (ws' := [((B 0), .inr (5, [.ref ((B 1)), .ref ((B 2)), .int (iI ((q0 : Int))), .ref ((B 3)), .int (iI ((q1 : Int))), .ref ((B 4)), .ref ((B 5)), .int (iI ((q2 : Int))), .int (iI ((q3 : Int))), .int (iI ((q4 : Int))), .ref ((B 6)), .ref ((B 7)), .int (iI ((q5 : Int))), .int (iI ((q6 : Int))), .ref ((B 8)), .ref ((B 9)), .ref ((B 10)), .ref ((B 11)), .ref ((B 12)), .int (iI ((q7 : Int)))])), cI G (B 1) 1547 M, cI G (B 8) 64 (zU K0 q5 ((zit s.1 s.2.2.1 t r).1)), cI G (B 9) 64 (zU K1 q5 (((zit s.1 s.2.2.1 t r).2.1 : Nat) : Int)), cI G (B 10) 64 K2, cI G (B 11) 64 (zU K3 q5 (((zit s.1 s.2.2.1 t r).2.2.2.1 : Nat) : Int)), cI G (B 12) 64 K4]) (pc := 215) C dX5_tells_215 3 rfl (q5) (by omega) (by omega) (by decide) rfl ?_
                          refine z_aload_n (pc := 216) C dX5_tells_216 4 rfl ?_
                          refine z_get (pc := 217) C dX5_tells_217 zCl5 ffX5_tells_37 0 rfl rfl ?_
                          refine z_aload_n (pc := 220) C dX5_tells_220 4 rfl ?_
                          refine z_get (pc := 221) C dX5_tells_221 zCl5 ffX5_tells_109 0 rfl rfl ?_
                          refine z_iload_n (pc := 224) C dX5_tells_224 5 rfl ?_
                          refine z_topi (y := (((zit s.1 s.2.2.1 t r).2.2.1 : Nat) : Int)) (rfl) ?_
                          refine z_iast (ws' := [((B 0), .inr (5, [.ref ((B 1)), .ref ((B 2)), .int (iI ((q0 : Int))), .ref ((B 3)), .int (iI ((q1 : Int))), .ref ((B 4)), .ref ((B 5)), .int (iI ((q2 : Int))), .int (iI ((q3 : Int))), .int (iI ((q4 : Int))), .ref ((B 6)), .ref ((B 7)), .int (iI ((q5 : Int))), .int (iI ((q6 : Int))), .ref ((B 8)), .ref ((B 9)), .ref ((B 10)), .ref ((B 11)), .ref ((B 12)), .int (iI ((q7 : Int)))])), cI G (B 1) 1547 M, cI G (B 8) 64 (zU K0 q5 ((zit s.1 s.2.2.1 t r).1)), cI G (B 9) 64 (zU K1 q5 (((zit s.1 s.2.2.1 t r).2.1 : Nat) : Int)), cI G (B 10) 64 (zU K2 q5 (((zit s.1 s.2.2.1 t r).2.2.1 : Nat) : Int)), cI G (B 11) 64 (zU K3 q5 (((zit s.1 s.2.2.1 t r).2.2.2.1 : Nat) : Int)), cI G (B 12) 64 K4]) (pc := 225) C dX5_tells_225 4 rfl (q5) (by omega) (by omega) (by decide) rfl ?_
                          refine z_aload_n (pc := 226) C dX5_tells_226 4 rfl ?_
                          refine z_get (pc := 227) C dX5_tells_227 zCl5 ffX5_tells_43 0 rfl rfl ?_
                          refine z_aload_n (pc := 230) C dX5_tells_230 4 rfl ?_
                          refine z_get (pc := 231) C dX5_tells_231 zCl5 ffX5_tells_109 0 rfl rfl ?_
                          refine z_iload_n (pc := 234) C dX5_tells_234 5 rfl ?_
                          refine z_iload_n (pc := 235) C dX5_tells_235 7 rfl ?_
                          refine z_iconst (pc := 236) C dX5_tells_236 ?_
                          refine z_isub (pc := 237) C dX5_tells_237 ?_
                          refine z_iload_n (pc := 238) C dX5_tells_238 6 rfl ?_
                          refine z_imul (pc := 239) C dX5_tells_239 ?_
                          refine z_iadd (pc := 240) C dX5_tells_240 ?_
                          refine z_iconst (pc := 241) C dX5_tells_241 ?_
                          refine z_iload_n (pc := 242) C dX5_tells_242 6 rfl ?_
                          refine z_imul (pc := 243) C dX5_tells_243 ?_
                          refine z_iconst (pc := 244) C dX5_tells_244 ?_
                          refine z_idiv (pc := 245) C dX5_tells_245 ⟨by omega, by omega⟩ (by decide) ?_
                          refine z_iadd (pc := 246) C dX5_tells_246 ?_
                          refine z_topi (y := (((zit s.1 s.2.2.1 t r).2.2.2.2 : Nat) : Int)) (by show _ = ((zlast s.2.2.1 t r : Nat) : Int); unfold zlast; rw [hz9]; omega) ?_
                          refine z_iast (ws' := [((B 0), .inr (5, [.ref ((B 1)), .ref ((B 2)), .int (iI ((q0 : Int))), .ref ((B 3)), .int (iI ((q1 : Int))), .ref ((B 4)), .ref ((B 5)), .int (iI ((q2 : Int))), .int (iI ((q3 : Int))), .int (iI ((q4 : Int))), .ref ((B 6)), .ref ((B 7)), .int (iI ((q5 : Int))), .int (iI ((q6 : Int))), .ref ((B 8)), .ref ((B 9)), .ref ((B 10)), .ref ((B 11)), .ref ((B 12)), .int (iI ((q7 : Int)))])), cI G (B 1) 1547 M, cI G (B 8) 64 (zU K0 q5 ((zit s.1 s.2.2.1 t r).1)), cI G (B 9) 64 (zU K1 q5 (((zit s.1 s.2.2.1 t r).2.1 : Nat) : Int)), cI G (B 10) 64 (zU K2 q5 (((zit s.1 s.2.2.1 t r).2.2.1 : Nat) : Int)), cI G (B 11) 64 (zU K3 q5 (((zit s.1 s.2.2.1 t r).2.2.2.1 : Nat) : Int)), cI G (B 12) 64 (zU K4 q5 (((zit s.1 s.2.2.1 t r).2.2.2.2 : Nat) : Int))]) (pc := 247) C dX5_tells_247 6 rfl (q5) (by omega) (by omega) (by decide) rfl ?_
                          refine z_iconst (pc := 248) C dX5_tells_248 ?_
                          exact z_zret (pc := 249) C R0 (by decide) dX5_tells_249 (⟨rfl, rfl⟩)
                      · exfalso; omega
                    · refine z_iload (pc := 151) C dX5_tells_151 2 rfl ?_
                      refine z_if_ne (tgt := 165) (pc := 153) C dX5_tells_153 (by decide) ⟨by omega, by omega⟩ (fun c153 => ?_) (fun c153 => ?_)
                      · refine z_iconst (pc := 165) C dX5_tells_165 ?_
                        refine z_istore (lv' := [(8, .int (iI 0)), (7, .int (iI 1)), (6, .int (iI ((((zvo s.1 (s.2.2.1 4) (t + 10 * r) r) : Nat) : Int)))), (5, .int (iI ((((zvo s.1 (s.2.2.1 4) (t + 9 * r) r) : Nat) : Int)))), (0, .ref ((B 0))), (1, .int (iI ((t : Int)))), (2, .int (iI ((r : Int)))), (3, .int (iI 11)), (4, .int (iI ((((zac s.1 (s.2.2.1 4) t r 8 / 2) : Nat) : Int))))]) (pc := 166) C dX5_tells_166 (by decide) rfl ?_
                        refine z_rowI (F' := (zU K3 q5 (((zit s.1 s.2.2.1 t r).2.2.2.1 : Nat) : Int))) (ws' := [((B 0), .inr (5, [.ref ((B 1)), .ref ((B 2)), .int (iI ((q0 : Int))), .ref ((B 3)), .int (iI ((q1 : Int))), .ref ((B 4)), .ref ((B 5)), .int (iI ((q2 : Int))), .int (iI ((q3 : Int))), .int (iI ((q4 : Int))), .ref ((B 6)), .ref ((B 7)), .int (iI ((q5 : Int))), .int (iI ((q6 : Int))), .ref ((B 8)), .ref ((B 9)), .ref ((B 10)), .ref ((B 11)), .ref ((B 12)), .int (iI ((q7 : Int)))])), cI G (B 1) 1547 M, cI G (B 8) 64 K0, cI G (B 9) 64 K1, cI G (B 10) 64 K2, cI G (B 11) 64 (zU K3 q5 (((zit s.1 s.2.2.1 t r).2.2.2.1 : Nat) : Int)), cI G (B 12) 64 K4]) 5 rfl (fun j _ => by rw [show (zit s.1 s.2.2.1 t r).2.2.2.1 = zdc s.1 t r (zst9 s.2.2.1) from rfl, hz9]) rfl ?_
                        refine z_aload_n (pc := 168) C dX5_tells_168 4 rfl ?_
                        refine z_get (pc := 169) C dX5_tells_169 zCl5 ffX5_tells_31 0 rfl rfl ?_
                        refine z_aload_n (pc := 172) C dX5_tells_172 4 rfl ?_
                        refine z_get (pc := 173) C dX5_tells_173 zCl5 ffX5_tells_109 0 rfl rfl ?_
                        refine z_iload (pc := 176) C dX5_tells_176 0 rfl ?_
                        refine z_if_eq (tgt := 185) (pc := 178) C dX5_tells_178 (by decide) (by decide) (fun c178 => ?_) (fun c178 => ?_)
                        · refine z_iload (pc := 185) C dX5_tells_185 2 rfl ?_
                          refine z_if_ne (tgt := 194) (pc := 187) C dX5_tells_187 (by decide) ⟨by omega, by omega⟩ (fun c187 => ?_) (fun c187 => ?_)
                          · refine z_iload (pc := 194) C dX5_tells_194 1 rfl ?_
                            refine z_if_eq (tgt := 203) (pc := 196) C dX5_tells_196 (by decide) (by decide) (fun c196 => ?_) (fun c196 => ?_)
                            · exfalso; omega
                            · refine z_iconst (pc := 199) C dX5_tells_199 ?_
                              refine z_goto (tgt := 204) (pc := 200) C dX5_tells_200 (by decide) ?_
                              refine z_topi (y := (zit s.1 s.2.2.1 t r).1) (by omega) ?_
                              refine z_iast (ws' := [((B 0), .inr (5, [.ref ((B 1)), .ref ((B 2)), .int (iI ((q0 : Int))), .ref ((B 3)), .int (iI ((q1 : Int))), .ref ((B 4)), .ref ((B 5)), .int (iI ((q2 : Int))), .int (iI ((q3 : Int))), .int (iI ((q4 : Int))), .ref ((B 6)), .ref ((B 7)), .int (iI ((q5 : Int))), .int (iI ((q6 : Int))), .ref ((B 8)), .ref ((B 9)), .ref ((B 10)), .ref ((B 11)), .ref ((B 12)), .int (iI ((q7 : Int)))])), cI G (B 1) 1547 M, cI G (B 8) 64 (zU K0 q5 ((zit s.1 s.2.2.1 t r).1)), cI G (B 9) 64 K1, cI G (B 10) 64 K2, cI G (B 11) 64 (zU K3 q5 (((zit s.1 s.2.2.1 t r).2.2.2.1 : Nat) : Int)), cI G (B 12) 64 K4]) (pc := 204) C dX5_tells_204 2 rfl (q5) (by omega) (by omega) (by decide) rfl ?_
                              refine z_aload_n (pc := 205) C dX5_tells_205 4 rfl ?_
                              refine z_get (pc := 206) C dX5_tells_206 zCl5 ffX5_tells_34 0 rfl rfl ?_
                              refine z_aload_n (pc := 209) C dX5_tells_209 4 rfl ?_
                              refine z_get (pc := 210) C dX5_tells_210 zCl5 ffX5_tells_109 0 rfl rfl ?_
                              refine z_iload (pc := 213) C dX5_tells_213 8 rfl ?_
                              refine z_topi (y := (((zit s.1 s.2.2.1 t r).2.1 : Nat) : Int)) (by rw [hw1]) ?_
                              refine z_iast (ws' := [((B 0), .inr (5, [.ref ((B 1)), .ref ((B 2)), .int (iI ((q0 : Int))), .ref ((B 3)), .int (iI ((q1 : Int))), .ref ((B 4)), .ref ((B 5)), .int (iI ((q2 : Int))), .int (iI ((q3 : Int))), .int (iI ((q4 : Int))), .ref ((B 6)), .ref ((B 7)), .int (iI ((q5 : Int))), .int (iI ((q6 : Int))), .ref ((B 8)), .ref ((B 9)), .ref ((B 10)), .ref ((B 11)), .ref ((B 12)), .int (iI ((q7 : Int)))])), cI G (B 1) 1547 M, cI G (B 8) 64 (zU K0 q5 ((zit s.1 s.2.2.1 t r).1)), cI G (B 9) 64 (zU K1 q5 (((zit s.1 s.2.2.1 t r).2.1 : Nat) : Int)), cI G (B 10) 64 K2, cI G (B 11) 64 (zU K3 q5 (((zit s.1 s.2.2.1 t r).2.2.2.1 : Nat) : Int)), cI G (B 12) 64 K4]) (pc := 215) C dX5_tells_215 3 rfl (q5) (by omega) (by omega) (by decide) rfl ?_
                              refine z_aload_n (pc := 216) C dX5_tells_216 4 rfl ?_
                              refine z_get (pc := 217) C dX5_tells_217 zCl5 ffX5_tells_37 0 rfl rfl ?_
                              refine z_aload_n (pc := 220) C dX5_tells_220 4 rfl ?_
                              refine z_get (pc := 221) C dX5_tells_221 zCl5 ffX5_tells_109 0 rfl rfl ?_
                              refine z_iload_n (pc := 224) C dX5_tells_224 5 rfl ?_
                              refine z_topi (y := (((zit s.1 s.2.2.1 t r).2.2.1 : Nat) : Int)) (rfl) ?_
                              refine z_iast (ws' := [((B 0), .inr (5, [.ref ((B 1)), .ref ((B 2)), .int (iI ((q0 : Int))), .ref ((B 3)), .int (iI ((q1 : Int))), .ref ((B 4)), .ref ((B 5)), .int (iI ((q2 : Int))), .int (iI ((q3 : Int))), .int (iI ((q4 : Int))), .ref ((B 6)), .ref ((B 7)), .int (iI ((q5 : Int))), .int (iI ((q6 : Int))), .ref ((B 8)), .ref ((B 9)), .ref ((B 10)), .ref ((B 11)), .ref ((B 12)), .int (iI ((q7 : Int)))])), cI G (B 1) 1547 M, cI G (B 8) 64 (zU K0 q5 ((zit s.1 s.2.2.1 t r).1)), cI G (B 9) 64 (zU K1 q5 (((zit s.1 s.2.2.1 t r).2.1 : Nat) : Int)), cI G (B 10) 64 (zU K2 q5 (((zit s.1 s.2.2.1 t r).2.2.1 : Nat) : Int)), cI G (B 11) 64 (zU K3 q5 (((zit s.1 s.2.2.1 t r).2.2.2.1 : Nat) : Int)), cI G (B 12) 64 K4]) (pc := 225) C dX5_tells_225 4 rfl (q5) (by omega) (by omega) (by decide) rfl ?_
                              refine z_aload_n (pc := 226) C dX5_tells_226 4 rfl ?_
                              refine z_get (pc := 227) C dX5_tells_227 zCl5 ffX5_tells_43 0 rfl rfl ?_
                              refine z_aload_n (pc := 230) C dX5_tells_230 4 rfl ?_
                              refine z_get (pc := 231) C dX5_tells_231 zCl5 ffX5_tells_109 0 rfl rfl ?_
                              refine z_iload_n (pc := 234) C dX5_tells_234 5 rfl ?_
                              refine z_iload_n (pc := 235) C dX5_tells_235 7 rfl ?_
                              refine z_iconst (pc := 236) C dX5_tells_236 ?_
                              refine z_isub (pc := 237) C dX5_tells_237 ?_
                              refine z_iload_n (pc := 238) C dX5_tells_238 6 rfl ?_
                              refine z_imul (pc := 239) C dX5_tells_239 ?_
                              refine z_iadd (pc := 240) C dX5_tells_240 ?_
                              refine z_iconst (pc := 241) C dX5_tells_241 ?_
                              refine z_iload_n (pc := 242) C dX5_tells_242 6 rfl ?_
                              refine z_imul (pc := 243) C dX5_tells_243 ?_
                              refine z_iconst (pc := 244) C dX5_tells_244 ?_
                              refine z_idiv (pc := 245) C dX5_tells_245 ⟨by omega, by omega⟩ (by decide) ?_
                              refine z_iadd (pc := 246) C dX5_tells_246 ?_
                              refine z_topi (y := (((zit s.1 s.2.2.1 t r).2.2.2.2 : Nat) : Int)) (by show _ = ((zlast s.2.2.1 t r : Nat) : Int); unfold zlast; rw [hz9]; omega) ?_
                              refine z_iast (ws' := [((B 0), .inr (5, [.ref ((B 1)), .ref ((B 2)), .int (iI ((q0 : Int))), .ref ((B 3)), .int (iI ((q1 : Int))), .ref ((B 4)), .ref ((B 5)), .int (iI ((q2 : Int))), .int (iI ((q3 : Int))), .int (iI ((q4 : Int))), .ref ((B 6)), .ref ((B 7)), .int (iI ((q5 : Int))), .int (iI ((q6 : Int))), .ref ((B 8)), .ref ((B 9)), .ref ((B 10)), .ref ((B 11)), .ref ((B 12)), .int (iI ((q7 : Int)))])), cI G (B 1) 1547 M, cI G (B 8) 64 (zU K0 q5 ((zit s.1 s.2.2.1 t r).1)), cI G (B 9) 64 (zU K1 q5 (((zit s.1 s.2.2.1 t r).2.1 : Nat) : Int)), cI G (B 10) 64 (zU K2 q5 (((zit s.1 s.2.2.1 t r).2.2.1 : Nat) : Int)), cI G (B 11) 64 (zU K3 q5 (((zit s.1 s.2.2.1 t r).2.2.2.1 : Nat) : Int)), cI G (B 12) 64 (zU K4 q5 (((zit s.1 s.2.2.1 t r).2.2.2.2 : Nat) : Int))]) (pc := 247) C dX5_tells_247 6 rfl (q5) (by omega) (by omega) (by decide) rfl ?_
                              refine z_iconst (pc := 248) C dX5_tells_248 ?_
                              exact z_zret (pc := 249) C R0 (by decide) dX5_tells_249 (⟨rfl, rfl⟩)
                          · refine z_iconst (pc := 190) C dX5_tells_190 ?_
                            refine z_goto (tgt := 204) (pc := 191) C dX5_tells_191 (by decide) ?_
                            refine z_topi (y := (zit s.1 s.2.2.1 t r).1) (by omega) ?_
                            refine z_iast (ws' := [((B 0), .inr (5, [.ref ((B 1)), .ref ((B 2)), .int (iI ((q0 : Int))), .ref ((B 3)), .int (iI ((q1 : Int))), .ref ((B 4)), .ref ((B 5)), .int (iI ((q2 : Int))), .int (iI ((q3 : Int))), .int (iI ((q4 : Int))), .ref ((B 6)), .ref ((B 7)), .int (iI ((q5 : Int))), .int (iI ((q6 : Int))), .ref ((B 8)), .ref ((B 9)), .ref ((B 10)), .ref ((B 11)), .ref ((B 12)), .int (iI ((q7 : Int)))])), cI G (B 1) 1547 M, cI G (B 8) 64 (zU K0 q5 ((zit s.1 s.2.2.1 t r).1)), cI G (B 9) 64 K1, cI G (B 10) 64 K2, cI G (B 11) 64 (zU K3 q5 (((zit s.1 s.2.2.1 t r).2.2.2.1 : Nat) : Int)), cI G (B 12) 64 K4]) (pc := 204) C dX5_tells_204 2 rfl (q5) (by omega) (by omega) (by decide) rfl ?_
                            refine z_aload_n (pc := 205) C dX5_tells_205 4 rfl ?_
                            refine z_get (pc := 206) C dX5_tells_206 zCl5 ffX5_tells_34 0 rfl rfl ?_
                            refine z_aload_n (pc := 209) C dX5_tells_209 4 rfl ?_
                            refine z_get (pc := 210) C dX5_tells_210 zCl5 ffX5_tells_109 0 rfl rfl ?_
                            refine z_iload (pc := 213) C dX5_tells_213 8 rfl ?_
                            refine z_topi (y := (((zit s.1 s.2.2.1 t r).2.1 : Nat) : Int)) (by rw [hw1]) ?_
                            refine z_iast (ws' := [((B 0), .inr (5, [.ref ((B 1)), .ref ((B 2)), .int (iI ((q0 : Int))), .ref ((B 3)), .int (iI ((q1 : Int))), .ref ((B 4)), .ref ((B 5)), .int (iI ((q2 : Int))), .int (iI ((q3 : Int))), .int (iI ((q4 : Int))), .ref ((B 6)), .ref ((B 7)), .int (iI ((q5 : Int))), .int (iI ((q6 : Int))), .ref ((B 8)), .ref ((B 9)), .ref ((B 10)), .ref ((B 11)), .ref ((B 12)), .int (iI ((q7 : Int)))])), cI G (B 1) 1547 M, cI G (B 8) 64 (zU K0 q5 ((zit s.1 s.2.2.1 t r).1)), cI G (B 9) 64 (zU K1 q5 (((zit s.1 s.2.2.1 t r).2.1 : Nat) : Int)), cI G (B 10) 64 K2, cI G (B 11) 64 (zU K3 q5 (((zit s.1 s.2.2.1 t r).2.2.2.1 : Nat) : Int)), cI G (B 12) 64 K4]) (pc := 215) C dX5_tells_215 3 rfl (q5) (by omega) (by omega) (by decide) rfl ?_
                            refine z_aload_n (pc := 216) C dX5_tells_216 4 rfl ?_
                            refine z_get (pc := 217) C dX5_tells_217 zCl5 ffX5_tells_37 0 rfl rfl ?_
                            refine z_aload_n (pc := 220) C dX5_tells_220 4 rfl ?_
                            refine z_get (pc := 221) C dX5_tells_221 zCl5 ffX5_tells_109 0 rfl rfl ?_
                            refine z_iload_n (pc := 224) C dX5_tells_224 5 rfl ?_
                            refine z_topi (y := (((zit s.1 s.2.2.1 t r).2.2.1 : Nat) : Int)) (rfl) ?_
                            refine z_iast (ws' := [((B 0), .inr (5, [.ref ((B 1)), .ref ((B 2)), .int (iI ((q0 : Int))), .ref ((B 3)), .int (iI ((q1 : Int))), .ref ((B 4)), .ref ((B 5)), .int (iI ((q2 : Int))), .int (iI ((q3 : Int))), .int (iI ((q4 : Int))), .ref ((B 6)), .ref ((B 7)), .int (iI ((q5 : Int))), .int (iI ((q6 : Int))), .ref ((B 8)), .ref ((B 9)), .ref ((B 10)), .ref ((B 11)), .ref ((B 12)), .int (iI ((q7 : Int)))])), cI G (B 1) 1547 M, cI G (B 8) 64 (zU K0 q5 ((zit s.1 s.2.2.1 t r).1)), cI G (B 9) 64 (zU K1 q5 (((zit s.1 s.2.2.1 t r).2.1 : Nat) : Int)), cI G (B 10) 64 (zU K2 q5 (((zit s.1 s.2.2.1 t r).2.2.1 : Nat) : Int)), cI G (B 11) 64 (zU K3 q5 (((zit s.1 s.2.2.1 t r).2.2.2.1 : Nat) : Int)), cI G (B 12) 64 K4]) (pc := 225) C dX5_tells_225 4 rfl (q5) (by omega) (by omega) (by decide) rfl ?_
                            refine z_aload_n (pc := 226) C dX5_tells_226 4 rfl ?_
                            refine z_get (pc := 227) C dX5_tells_227 zCl5 ffX5_tells_43 0 rfl rfl ?_
                            refine z_aload_n (pc := 230) C dX5_tells_230 4 rfl ?_
                            refine z_get (pc := 231) C dX5_tells_231 zCl5 ffX5_tells_109 0 rfl rfl ?_
                            refine z_iload_n (pc := 234) C dX5_tells_234 5 rfl ?_
                            refine z_iload_n (pc := 235) C dX5_tells_235 7 rfl ?_
                            refine z_iconst (pc := 236) C dX5_tells_236 ?_
                            refine z_isub (pc := 237) C dX5_tells_237 ?_
                            refine z_iload_n (pc := 238) C dX5_tells_238 6 rfl ?_
                            refine z_imul (pc := 239) C dX5_tells_239 ?_
                            refine z_iadd (pc := 240) C dX5_tells_240 ?_
                            refine z_iconst (pc := 241) C dX5_tells_241 ?_
                            refine z_iload_n (pc := 242) C dX5_tells_242 6 rfl ?_
                            refine z_imul (pc := 243) C dX5_tells_243 ?_
                            refine z_iconst (pc := 244) C dX5_tells_244 ?_
                            refine z_idiv (pc := 245) C dX5_tells_245 ⟨by omega, by omega⟩ (by decide) ?_
                            refine z_iadd (pc := 246) C dX5_tells_246 ?_
                            refine z_topi (y := (((zit s.1 s.2.2.1 t r).2.2.2.2 : Nat) : Int)) (by show _ = ((zlast s.2.2.1 t r : Nat) : Int); unfold zlast; rw [hz9]; omega) ?_
                            refine z_iast (ws' := [((B 0), .inr (5, [.ref ((B 1)), .ref ((B 2)), .int (iI ((q0 : Int))), .ref ((B 3)), .int (iI ((q1 : Int))), .ref ((B 4)), .ref ((B 5)), .int (iI ((q2 : Int))), .int (iI ((q3 : Int))), .int (iI ((q4 : Int))), .ref ((B 6)), .ref ((B 7)), .int (iI ((q5 : Int))), .int (iI ((q6 : Int))), .ref ((B 8)), .ref ((B 9)), .ref ((B 10)), .ref ((B 11)), .ref ((B 12)), .int (iI ((q7 : Int)))])), cI G (B 1) 1547 M, cI G (B 8) 64 (zU K0 q5 ((zit s.1 s.2.2.1 t r).1)), cI G (B 9) 64 (zU K1 q5 (((zit s.1 s.2.2.1 t r).2.1 : Nat) : Int)), cI G (B 10) 64 (zU K2 q5 (((zit s.1 s.2.2.1 t r).2.2.1 : Nat) : Int)), cI G (B 11) 64 (zU K3 q5 (((zit s.1 s.2.2.1 t r).2.2.2.1 : Nat) : Int)), cI G (B 12) 64 (zU K4 q5 (((zit s.1 s.2.2.1 t r).2.2.2.2 : Nat) : Int))]) (pc := 247) C dX5_tells_247 6 rfl (q5) (by omega) (by omega) (by decide) rfl ?_
                            refine z_iconst (pc := 248) C dX5_tells_248 ?_
                            exact z_zret (pc := 249) C R0 (by decide) dX5_tells_249 (⟨rfl, rfl⟩)
                        · exfalso; omega
                      · refine z_iload (pc := 156) C dX5_tells_156 1 rfl ?_
                        refine z_if_ne (tgt := 165) (pc := 158) C dX5_tells_158 (by decide) ⟨by omega, by omega⟩ (fun c158 => ?_) (fun c158 => ?_)
                        · refine z_iconst (pc := 165) C dX5_tells_165 ?_
                          refine z_istore (lv' := [(8, .int (iI 0)), (7, .int (iI 1)), (6, .int (iI ((((zvo s.1 (s.2.2.1 4) (t + 10 * r) r) : Nat) : Int)))), (5, .int (iI ((((zvo s.1 (s.2.2.1 4) (t + 9 * r) r) : Nat) : Int)))), (0, .ref ((B 0))), (1, .int (iI ((t : Int)))), (2, .int (iI ((r : Int)))), (3, .int (iI 11)), (4, .int (iI ((((zac s.1 (s.2.2.1 4) t r 8 / 2) : Nat) : Int))))]) (pc := 166) C dX5_tells_166 (by decide) rfl ?_
                          refine z_rowI (F' := (zU K3 q5 (((zit s.1 s.2.2.1 t r).2.2.2.1 : Nat) : Int))) (ws' := [((B 0), .inr (5, [.ref ((B 1)), .ref ((B 2)), .int (iI ((q0 : Int))), .ref ((B 3)), .int (iI ((q1 : Int))), .ref ((B 4)), .ref ((B 5)), .int (iI ((q2 : Int))), .int (iI ((q3 : Int))), .int (iI ((q4 : Int))), .ref ((B 6)), .ref ((B 7)), .int (iI ((q5 : Int))), .int (iI ((q6 : Int))), .ref ((B 8)), .ref ((B 9)), .ref ((B 10)), .ref ((B 11)), .ref ((B 12)), .int (iI ((q7 : Int)))])), cI G (B 1) 1547 M, cI G (B 8) 64 K0, cI G (B 9) 64 K1, cI G (B 10) 64 K2, cI G (B 11) 64 (zU K3 q5 (((zit s.1 s.2.2.1 t r).2.2.2.1 : Nat) : Int)), cI G (B 12) 64 K4]) 5 rfl (fun j _ => by rw [show (zit s.1 s.2.2.1 t r).2.2.2.1 = zdc s.1 t r (zst9 s.2.2.1) from rfl, hz9]) rfl ?_
                          refine z_aload_n (pc := 168) C dX5_tells_168 4 rfl ?_
                          refine z_get (pc := 169) C dX5_tells_169 zCl5 ffX5_tells_31 0 rfl rfl ?_
                          refine z_aload_n (pc := 172) C dX5_tells_172 4 rfl ?_
                          refine z_get (pc := 173) C dX5_tells_173 zCl5 ffX5_tells_109 0 rfl rfl ?_
                          refine z_iload (pc := 176) C dX5_tells_176 0 rfl ?_
                          refine z_if_eq (tgt := 185) (pc := 178) C dX5_tells_178 (by decide) (by decide) (fun c178 => ?_) (fun c178 => ?_)
                          · refine z_iload (pc := 185) C dX5_tells_185 2 rfl ?_
                            refine z_if_ne (tgt := 194) (pc := 187) C dX5_tells_187 (by decide) ⟨by omega, by omega⟩ (fun c187 => ?_) (fun c187 => ?_)
                            · refine z_iload (pc := 194) C dX5_tells_194 1 rfl ?_
                              refine z_if_eq (tgt := 203) (pc := 196) C dX5_tells_196 (by decide) (by decide) (fun c196 => ?_) (fun c196 => ?_)
                              · exfalso; omega
                              · refine z_iconst (pc := 199) C dX5_tells_199 ?_
                                refine z_goto (tgt := 204) (pc := 200) C dX5_tells_200 (by decide) ?_
                                refine z_topi (y := (zit s.1 s.2.2.1 t r).1) (by omega) ?_
                                refine z_iast (ws' := [((B 0), .inr (5, [.ref ((B 1)), .ref ((B 2)), .int (iI ((q0 : Int))), .ref ((B 3)), .int (iI ((q1 : Int))), .ref ((B 4)), .ref ((B 5)), .int (iI ((q2 : Int))), .int (iI ((q3 : Int))), .int (iI ((q4 : Int))), .ref ((B 6)), .ref ((B 7)), .int (iI ((q5 : Int))), .int (iI ((q6 : Int))), .ref ((B 8)), .ref ((B 9)), .ref ((B 10)), .ref ((B 11)), .ref ((B 12)), .int (iI ((q7 : Int)))])), cI G (B 1) 1547 M, cI G (B 8) 64 (zU K0 q5 ((zit s.1 s.2.2.1 t r).1)), cI G (B 9) 64 K1, cI G (B 10) 64 K2, cI G (B 11) 64 (zU K3 q5 (((zit s.1 s.2.2.1 t r).2.2.2.1 : Nat) : Int)), cI G (B 12) 64 K4]) (pc := 204) C dX5_tells_204 2 rfl (q5) (by omega) (by omega) (by decide) rfl ?_
                                refine z_aload_n (pc := 205) C dX5_tells_205 4 rfl ?_
                                refine z_get (pc := 206) C dX5_tells_206 zCl5 ffX5_tells_34 0 rfl rfl ?_
                                refine z_aload_n (pc := 209) C dX5_tells_209 4 rfl ?_
                                refine z_get (pc := 210) C dX5_tells_210 zCl5 ffX5_tells_109 0 rfl rfl ?_
                                refine z_iload (pc := 213) C dX5_tells_213 8 rfl ?_
                                refine z_topi (y := (((zit s.1 s.2.2.1 t r).2.1 : Nat) : Int)) (by rw [hw1]) ?_
                                refine z_iast (ws' := [((B 0), .inr (5, [.ref ((B 1)), .ref ((B 2)), .int (iI ((q0 : Int))), .ref ((B 3)), .int (iI ((q1 : Int))), .ref ((B 4)), .ref ((B 5)), .int (iI ((q2 : Int))), .int (iI ((q3 : Int))), .int (iI ((q4 : Int))), .ref ((B 6)), .ref ((B 7)), .int (iI ((q5 : Int))), .int (iI ((q6 : Int))), .ref ((B 8)), .ref ((B 9)), .ref ((B 10)), .ref ((B 11)), .ref ((B 12)), .int (iI ((q7 : Int)))])), cI G (B 1) 1547 M, cI G (B 8) 64 (zU K0 q5 ((zit s.1 s.2.2.1 t r).1)), cI G (B 9) 64 (zU K1 q5 (((zit s.1 s.2.2.1 t r).2.1 : Nat) : Int)), cI G (B 10) 64 K2, cI G (B 11) 64 (zU K3 q5 (((zit s.1 s.2.2.1 t r).2.2.2.1 : Nat) : Int)), cI G (B 12) 64 K4]) (pc := 215) C dX5_tells_215 3 rfl (q5) (by omega) (by omega) (by decide) rfl ?_
                                refine z_aload_n (pc := 216) C dX5_tells_216 4 rfl ?_
                                refine z_get (pc := 217) C dX5_tells_217 zCl5 ffX5_tells_37 0 rfl rfl ?_
                                refine z_aload_n (pc := 220) C dX5_tells_220 4 rfl ?_
                                refine z_get (pc := 221) C dX5_tells_221 zCl5 ffX5_tells_109 0 rfl rfl ?_
                                refine z_iload_n (pc := 224) C dX5_tells_224 5 rfl ?_
                                refine z_topi (y := (((zit s.1 s.2.2.1 t r).2.2.1 : Nat) : Int)) (rfl) ?_
                                refine z_iast (ws' := [((B 0), .inr (5, [.ref ((B 1)), .ref ((B 2)), .int (iI ((q0 : Int))), .ref ((B 3)), .int (iI ((q1 : Int))), .ref ((B 4)), .ref ((B 5)), .int (iI ((q2 : Int))), .int (iI ((q3 : Int))), .int (iI ((q4 : Int))), .ref ((B 6)), .ref ((B 7)), .int (iI ((q5 : Int))), .int (iI ((q6 : Int))), .ref ((B 8)), .ref ((B 9)), .ref ((B 10)), .ref ((B 11)), .ref ((B 12)), .int (iI ((q7 : Int)))])), cI G (B 1) 1547 M, cI G (B 8) 64 (zU K0 q5 ((zit s.1 s.2.2.1 t r).1)), cI G (B 9) 64 (zU K1 q5 (((zit s.1 s.2.2.1 t r).2.1 : Nat) : Int)), cI G (B 10) 64 (zU K2 q5 (((zit s.1 s.2.2.1 t r).2.2.1 : Nat) : Int)), cI G (B 11) 64 (zU K3 q5 (((zit s.1 s.2.2.1 t r).2.2.2.1 : Nat) : Int)), cI G (B 12) 64 K4]) (pc := 225) C dX5_tells_225 4 rfl (q5) (by omega) (by omega) (by decide) rfl ?_
                                refine z_aload_n (pc := 226) C dX5_tells_226 4 rfl ?_
                                refine z_get (pc := 227) C dX5_tells_227 zCl5 ffX5_tells_43 0 rfl rfl ?_
                                refine z_aload_n (pc := 230) C dX5_tells_230 4 rfl ?_
                                refine z_get (pc := 231) C dX5_tells_231 zCl5 ffX5_tells_109 0 rfl rfl ?_
                                refine z_iload_n (pc := 234) C dX5_tells_234 5 rfl ?_
                                refine z_iload_n (pc := 235) C dX5_tells_235 7 rfl ?_
                                refine z_iconst (pc := 236) C dX5_tells_236 ?_
                                refine z_isub (pc := 237) C dX5_tells_237 ?_
                                refine z_iload_n (pc := 238) C dX5_tells_238 6 rfl ?_
                                refine z_imul (pc := 239) C dX5_tells_239 ?_
                                refine z_iadd (pc := 240) C dX5_tells_240 ?_
                                refine z_iconst (pc := 241) C dX5_tells_241 ?_
                                refine z_iload_n (pc := 242) C dX5_tells_242 6 rfl ?_
                                refine z_imul (pc := 243) C dX5_tells_243 ?_
                                refine z_iconst (pc := 244) C dX5_tells_244 ?_
                                refine z_idiv (pc := 245) C dX5_tells_245 ⟨by omega, by omega⟩ (by decide) ?_
                                refine z_iadd (pc := 246) C dX5_tells_246 ?_
                                refine z_topi (y := (((zit s.1 s.2.2.1 t r).2.2.2.2 : Nat) : Int)) (by show _ = ((zlast s.2.2.1 t r : Nat) : Int); unfold zlast; rw [hz9]; omega) ?_
                                refine z_iast (ws' := [((B 0), .inr (5, [.ref ((B 1)), .ref ((B 2)), .int (iI ((q0 : Int))), .ref ((B 3)), .int (iI ((q1 : Int))), .ref ((B 4)), .ref ((B 5)), .int (iI ((q2 : Int))), .int (iI ((q3 : Int))), .int (iI ((q4 : Int))), .ref ((B 6)), .ref ((B 7)), .int (iI ((q5 : Int))), .int (iI ((q6 : Int))), .ref ((B 8)), .ref ((B 9)), .ref ((B 10)), .ref ((B 11)), .ref ((B 12)), .int (iI ((q7 : Int)))])), cI G (B 1) 1547 M, cI G (B 8) 64 (zU K0 q5 ((zit s.1 s.2.2.1 t r).1)), cI G (B 9) 64 (zU K1 q5 (((zit s.1 s.2.2.1 t r).2.1 : Nat) : Int)), cI G (B 10) 64 (zU K2 q5 (((zit s.1 s.2.2.1 t r).2.2.1 : Nat) : Int)), cI G (B 11) 64 (zU K3 q5 (((zit s.1 s.2.2.1 t r).2.2.2.1 : Nat) : Int)), cI G (B 12) 64 (zU K4 q5 (((zit s.1 s.2.2.1 t r).2.2.2.2 : Nat) : Int))]) (pc := 247) C dX5_tells_247 6 rfl (q5) (by omega) (by omega) (by decide) rfl ?_
                                refine z_iconst (pc := 248) C dX5_tells_248 ?_
                                exact z_zret (pc := 249) C R0 (by decide) dX5_tells_249 (⟨rfl, rfl⟩)
                            · refine z_iconst (pc := 190) C dX5_tells_190 ?_
                              refine z_goto (tgt := 204) (pc := 191) C dX5_tells_191 (by decide) ?_
                              refine z_topi (y := (zit s.1 s.2.2.1 t r).1) (by omega) ?_
                              refine z_iast (ws' := [((B 0), .inr (5, [.ref ((B 1)), .ref ((B 2)), .int (iI ((q0 : Int))), .ref ((B 3)), .int (iI ((q1 : Int))), .ref ((B 4)), .ref ((B 5)), .int (iI ((q2 : Int))), .int (iI ((q3 : Int))), .int (iI ((q4 : Int))), .ref ((B 6)), .ref ((B 7)), .int (iI ((q5 : Int))), .int (iI ((q6 : Int))), .ref ((B 8)), .ref ((B 9)), .ref ((B 10)), .ref ((B 11)), .ref ((B 12)), .int (iI ((q7 : Int)))])), cI G (B 1) 1547 M, cI G (B 8) 64 (zU K0 q5 ((zit s.1 s.2.2.1 t r).1)), cI G (B 9) 64 K1, cI G (B 10) 64 K2, cI G (B 11) 64 (zU K3 q5 (((zit s.1 s.2.2.1 t r).2.2.2.1 : Nat) : Int)), cI G (B 12) 64 K4]) (pc := 204) C dX5_tells_204 2 rfl (q5) (by omega) (by omega) (by decide) rfl ?_
                              refine z_aload_n (pc := 205) C dX5_tells_205 4 rfl ?_
                              refine z_get (pc := 206) C dX5_tells_206 zCl5 ffX5_tells_34 0 rfl rfl ?_
                              refine z_aload_n (pc := 209) C dX5_tells_209 4 rfl ?_
                              refine z_get (pc := 210) C dX5_tells_210 zCl5 ffX5_tells_109 0 rfl rfl ?_
                              refine z_iload (pc := 213) C dX5_tells_213 8 rfl ?_
                              refine z_topi (y := (((zit s.1 s.2.2.1 t r).2.1 : Nat) : Int)) (by rw [hw1]) ?_
                              refine z_iast (ws' := [((B 0), .inr (5, [.ref ((B 1)), .ref ((B 2)), .int (iI ((q0 : Int))), .ref ((B 3)), .int (iI ((q1 : Int))), .ref ((B 4)), .ref ((B 5)), .int (iI ((q2 : Int))), .int (iI ((q3 : Int))), .int (iI ((q4 : Int))), .ref ((B 6)), .ref ((B 7)), .int (iI ((q5 : Int))), .int (iI ((q6 : Int))), .ref ((B 8)), .ref ((B 9)), .ref ((B 10)), .ref ((B 11)), .ref ((B 12)), .int (iI ((q7 : Int)))])), cI G (B 1) 1547 M, cI G (B 8) 64 (zU K0 q5 ((zit s.1 s.2.2.1 t r).1)), cI G (B 9) 64 (zU K1 q5 (((zit s.1 s.2.2.1 t r).2.1 : Nat) : Int)), cI G (B 10) 64 K2, cI G (B 11) 64 (zU K3 q5 (((zit s.1 s.2.2.1 t r).2.2.2.1 : Nat) : Int)), cI G (B 12) 64 K4]) (pc := 215) C dX5_tells_215 3 rfl (q5) (by omega) (by omega) (by decide) rfl ?_
                              refine z_aload_n (pc := 216) C dX5_tells_216 4 rfl ?_
                              refine z_get (pc := 217) C dX5_tells_217 zCl5 ffX5_tells_37 0 rfl rfl ?_
                              refine z_aload_n (pc := 220) C dX5_tells_220 4 rfl ?_
                              refine z_get (pc := 221) C dX5_tells_221 zCl5 ffX5_tells_109 0 rfl rfl ?_
                              refine z_iload_n (pc := 224) C dX5_tells_224 5 rfl ?_
                              refine z_topi (y := (((zit s.1 s.2.2.1 t r).2.2.1 : Nat) : Int)) (rfl) ?_
                              refine z_iast (ws' := [((B 0), .inr (5, [.ref ((B 1)), .ref ((B 2)), .int (iI ((q0 : Int))), .ref ((B 3)), .int (iI ((q1 : Int))), .ref ((B 4)), .ref ((B 5)), .int (iI ((q2 : Int))), .int (iI ((q3 : Int))), .int (iI ((q4 : Int))), .ref ((B 6)), .ref ((B 7)), .int (iI ((q5 : Int))), .int (iI ((q6 : Int))), .ref ((B 8)), .ref ((B 9)), .ref ((B 10)), .ref ((B 11)), .ref ((B 12)), .int (iI ((q7 : Int)))])), cI G (B 1) 1547 M, cI G (B 8) 64 (zU K0 q5 ((zit s.1 s.2.2.1 t r).1)), cI G (B 9) 64 (zU K1 q5 (((zit s.1 s.2.2.1 t r).2.1 : Nat) : Int)), cI G (B 10) 64 (zU K2 q5 (((zit s.1 s.2.2.1 t r).2.2.1 : Nat) : Int)), cI G (B 11) 64 (zU K3 q5 (((zit s.1 s.2.2.1 t r).2.2.2.1 : Nat) : Int)), cI G (B 12) 64 K4]) (pc := 225) C dX5_tells_225 4 rfl (q5) (by omega) (by omega) (by decide) rfl ?_
                              refine z_aload_n (pc := 226) C dX5_tells_226 4 rfl ?_
                              refine z_get (pc := 227) C dX5_tells_227 zCl5 ffX5_tells_43 0 rfl rfl ?_
                              refine z_aload_n (pc := 230) C dX5_tells_230 4 rfl ?_
                              refine z_get (pc := 231) C dX5_tells_231 zCl5 ffX5_tells_109 0 rfl rfl ?_
                              refine z_iload_n (pc := 234) C dX5_tells_234 5 rfl ?_
                              refine z_iload_n (pc := 235) C dX5_tells_235 7 rfl ?_
                              refine z_iconst (pc := 236) C dX5_tells_236 ?_
                              refine z_isub (pc := 237) C dX5_tells_237 ?_
                              refine z_iload_n (pc := 238) C dX5_tells_238 6 rfl ?_
                              refine z_imul (pc := 239) C dX5_tells_239 ?_
                              refine z_iadd (pc := 240) C dX5_tells_240 ?_
                              refine z_iconst (pc := 241) C dX5_tells_241 ?_
                              refine z_iload_n (pc := 242) C dX5_tells_242 6 rfl ?_
                              refine z_imul (pc := 243) C dX5_tells_243 ?_
                              refine z_iconst (pc := 244) C dX5_tells_244 ?_
                              refine z_idiv (pc := 245) C dX5_tells_245 ⟨by omega, by omega⟩ (by decide) ?_
                              refine z_iadd (pc := 246) C dX5_tells_246 ?_
                              refine z_topi (y := (((zit s.1 s.2.2.1 t r).2.2.2.2 : Nat) : Int)) (by show _ = ((zlast s.2.2.1 t r : Nat) : Int); unfold zlast; rw [hz9]; omega) ?_
                              refine z_iast (ws' := [((B 0), .inr (5, [.ref ((B 1)), .ref ((B 2)), .int (iI ((q0 : Int))), .ref ((B 3)), .int (iI ((q1 : Int))), .ref ((B 4)), .ref ((B 5)), .int (iI ((q2 : Int))), .int (iI ((q3 : Int))), .int (iI ((q4 : Int))), .ref ((B 6)), .ref ((B 7)), .int (iI ((q5 : Int))), .int (iI ((q6 : Int))), .ref ((B 8)), .ref ((B 9)), .ref ((B 10)), .ref ((B 11)), .ref ((B 12)), .int (iI ((q7 : Int)))])), cI G (B 1) 1547 M, cI G (B 8) 64 (zU K0 q5 ((zit s.1 s.2.2.1 t r).1)), cI G (B 9) 64 (zU K1 q5 (((zit s.1 s.2.2.1 t r).2.1 : Nat) : Int)), cI G (B 10) 64 (zU K2 q5 (((zit s.1 s.2.2.1 t r).2.2.1 : Nat) : Int)), cI G (B 11) 64 (zU K3 q5 (((zit s.1 s.2.2.1 t r).2.2.2.1 : Nat) : Int)), cI G (B 12) 64 (zU K4 q5 (((zit s.1 s.2.2.1 t r).2.2.2.2 : Nat) : Int))]) (pc := 247) C dX5_tells_247 6 rfl (q5) (by omega) (by omega) (by decide) rfl ?_
                              refine z_iconst (pc := 248) C dX5_tells_248 ?_
                              exact z_zret (pc := 249) C R0 (by decide) dX5_tells_249 (⟨rfl, rfl⟩)
                          · exfalso; omega
                        · refine z_iconst (pc := 161) C dX5_tells_161 ?_
                          refine z_goto (tgt := 166) (pc := 162) C dX5_tells_162 (by decide) ?_
                          refine z_istore (lv' := [(8, .int (iI 1)), (7, .int (iI 1)), (6, .int (iI ((((zvo s.1 (s.2.2.1 4) (t + 10 * r) r) : Nat) : Int)))), (5, .int (iI ((((zvo s.1 (s.2.2.1 4) (t + 9 * r) r) : Nat) : Int)))), (0, .ref ((B 0))), (1, .int (iI ((t : Int)))), (2, .int (iI ((r : Int)))), (3, .int (iI 11)), (4, .int (iI ((((zac s.1 (s.2.2.1 4) t r 8 / 2) : Nat) : Int))))]) (pc := 166) C dX5_tells_166 (by decide) rfl ?_
                          refine z_rowI (F' := (zU K3 q5 (((zit s.1 s.2.2.1 t r).2.2.2.1 : Nat) : Int))) (ws' := [((B 0), .inr (5, [.ref ((B 1)), .ref ((B 2)), .int (iI ((q0 : Int))), .ref ((B 3)), .int (iI ((q1 : Int))), .ref ((B 4)), .ref ((B 5)), .int (iI ((q2 : Int))), .int (iI ((q3 : Int))), .int (iI ((q4 : Int))), .ref ((B 6)), .ref ((B 7)), .int (iI ((q5 : Int))), .int (iI ((q6 : Int))), .ref ((B 8)), .ref ((B 9)), .ref ((B 10)), .ref ((B 11)), .ref ((B 12)), .int (iI ((q7 : Int)))])), cI G (B 1) 1547 M, cI G (B 8) 64 K0, cI G (B 9) 64 K1, cI G (B 10) 64 K2, cI G (B 11) 64 (zU K3 q5 (((zit s.1 s.2.2.1 t r).2.2.2.1 : Nat) : Int)), cI G (B 12) 64 K4]) 5 rfl (fun j _ => by rw [show (zit s.1 s.2.2.1 t r).2.2.2.1 = zdc s.1 t r (zst9 s.2.2.1) from rfl, hz9]) rfl ?_
                          refine z_aload_n (pc := 168) C dX5_tells_168 4 rfl ?_
                          refine z_get (pc := 169) C dX5_tells_169 zCl5 ffX5_tells_31 0 rfl rfl ?_
                          refine z_aload_n (pc := 172) C dX5_tells_172 4 rfl ?_
                          refine z_get (pc := 173) C dX5_tells_173 zCl5 ffX5_tells_109 0 rfl rfl ?_
                          refine z_iload (pc := 176) C dX5_tells_176 0 rfl ?_
                          refine z_if_eq (tgt := 185) (pc := 178) C dX5_tells_178 (by decide) (by decide) (fun c178 => ?_) (fun c178 => ?_)
                          · exfalso; omega
                          · refine z_iconst (pc := 181) C dX5_tells_181 ?_
                            refine z_goto (tgt := 204) (pc := 182) C dX5_tells_182 (by decide) ?_
                            refine z_topi (y := (zit s.1 s.2.2.1 t r).1) (by omega) ?_
                            refine z_iast (ws' := [((B 0), .inr (5, [.ref ((B 1)), .ref ((B 2)), .int (iI ((q0 : Int))), .ref ((B 3)), .int (iI ((q1 : Int))), .ref ((B 4)), .ref ((B 5)), .int (iI ((q2 : Int))), .int (iI ((q3 : Int))), .int (iI ((q4 : Int))), .ref ((B 6)), .ref ((B 7)), .int (iI ((q5 : Int))), .int (iI ((q6 : Int))), .ref ((B 8)), .ref ((B 9)), .ref ((B 10)), .ref ((B 11)), .ref ((B 12)), .int (iI ((q7 : Int)))])), cI G (B 1) 1547 M, cI G (B 8) 64 (zU K0 q5 ((zit s.1 s.2.2.1 t r).1)), cI G (B 9) 64 K1, cI G (B 10) 64 K2, cI G (B 11) 64 (zU K3 q5 (((zit s.1 s.2.2.1 t r).2.2.2.1 : Nat) : Int)), cI G (B 12) 64 K4]) (pc := 204) C dX5_tells_204 2 rfl (q5) (by omega) (by omega) (by decide) rfl ?_
                            refine z_aload_n (pc := 205) C dX5_tells_205 4 rfl ?_
                            refine z_get (pc := 206) C dX5_tells_206 zCl5 ffX5_tells_34 0 rfl rfl ?_
                            refine z_aload_n (pc := 209) C dX5_tells_209 4 rfl ?_
                            refine z_get (pc := 210) C dX5_tells_210 zCl5 ffX5_tells_109 0 rfl rfl ?_
                            refine z_iload (pc := 213) C dX5_tells_213 8 rfl ?_
                            refine z_topi (y := (((zit s.1 s.2.2.1 t r).2.1 : Nat) : Int)) (by rw [hw1]) ?_
                            refine z_iast (ws' := [((B 0), .inr (5, [.ref ((B 1)), .ref ((B 2)), .int (iI ((q0 : Int))), .ref ((B 3)), .int (iI ((q1 : Int))), .ref ((B 4)), .ref ((B 5)), .int (iI ((q2 : Int))), .int (iI ((q3 : Int))), .int (iI ((q4 : Int))), .ref ((B 6)), .ref ((B 7)), .int (iI ((q5 : Int))), .int (iI ((q6 : Int))), .ref ((B 8)), .ref ((B 9)), .ref ((B 10)), .ref ((B 11)), .ref ((B 12)), .int (iI ((q7 : Int)))])), cI G (B 1) 1547 M, cI G (B 8) 64 (zU K0 q5 ((zit s.1 s.2.2.1 t r).1)), cI G (B 9) 64 (zU K1 q5 (((zit s.1 s.2.2.1 t r).2.1 : Nat) : Int)), cI G (B 10) 64 K2, cI G (B 11) 64 (zU K3 q5 (((zit s.1 s.2.2.1 t r).2.2.2.1 : Nat) : Int)), cI G (B 12) 64 K4]) (pc := 215) C dX5_tells_215 3 rfl (q5) (by omega) (by omega) (by decide) rfl ?_
                            refine z_aload_n (pc := 216) C dX5_tells_216 4 rfl ?_
                            refine z_get (pc := 217) C dX5_tells_217 zCl5 ffX5_tells_37 0 rfl rfl ?_
                            refine z_aload_n (pc := 220) C dX5_tells_220 4 rfl ?_
                            refine z_get (pc := 221) C dX5_tells_221 zCl5 ffX5_tells_109 0 rfl rfl ?_
                            refine z_iload_n (pc := 224) C dX5_tells_224 5 rfl ?_
                            refine z_topi (y := (((zit s.1 s.2.2.1 t r).2.2.1 : Nat) : Int)) (rfl) ?_
                            refine z_iast (ws' := [((B 0), .inr (5, [.ref ((B 1)), .ref ((B 2)), .int (iI ((q0 : Int))), .ref ((B 3)), .int (iI ((q1 : Int))), .ref ((B 4)), .ref ((B 5)), .int (iI ((q2 : Int))), .int (iI ((q3 : Int))), .int (iI ((q4 : Int))), .ref ((B 6)), .ref ((B 7)), .int (iI ((q5 : Int))), .int (iI ((q6 : Int))), .ref ((B 8)), .ref ((B 9)), .ref ((B 10)), .ref ((B 11)), .ref ((B 12)), .int (iI ((q7 : Int)))])), cI G (B 1) 1547 M, cI G (B 8) 64 (zU K0 q5 ((zit s.1 s.2.2.1 t r).1)), cI G (B 9) 64 (zU K1 q5 (((zit s.1 s.2.2.1 t r).2.1 : Nat) : Int)), cI G (B 10) 64 (zU K2 q5 (((zit s.1 s.2.2.1 t r).2.2.1 : Nat) : Int)), cI G (B 11) 64 (zU K3 q5 (((zit s.1 s.2.2.1 t r).2.2.2.1 : Nat) : Int)), cI G (B 12) 64 K4]) (pc := 225) C dX5_tells_225 4 rfl (q5) (by omega) (by omega) (by decide) rfl ?_
                            refine z_aload_n (pc := 226) C dX5_tells_226 4 rfl ?_
                            refine z_get (pc := 227) C dX5_tells_227 zCl5 ffX5_tells_43 0 rfl rfl ?_
                            refine z_aload_n (pc := 230) C dX5_tells_230 4 rfl ?_
                            refine z_get (pc := 231) C dX5_tells_231 zCl5 ffX5_tells_109 0 rfl rfl ?_
                            refine z_iload_n (pc := 234) C dX5_tells_234 5 rfl ?_
                            refine z_iload_n (pc := 235) C dX5_tells_235 7 rfl ?_
                            refine z_iconst (pc := 236) C dX5_tells_236 ?_
                            refine z_isub (pc := 237) C dX5_tells_237 ?_
                            refine z_iload_n (pc := 238) C dX5_tells_238 6 rfl ?_
                            refine z_imul (pc := 239) C dX5_tells_239 ?_
                            refine z_iadd (pc := 240) C dX5_tells_240 ?_
                            refine z_iconst (pc := 241) C dX5_tells_241 ?_
                            refine z_iload_n (pc := 242) C dX5_tells_242 6 rfl ?_
                            refine z_imul (pc := 243) C dX5_tells_243 ?_
                            refine z_iconst (pc := 244) C dX5_tells_244 ?_
                            refine z_idiv (pc := 245) C dX5_tells_245 ⟨by omega, by omega⟩ (by decide) ?_
                            refine z_iadd (pc := 246) C dX5_tells_246 ?_
                            refine z_topi (y := (((zit s.1 s.2.2.1 t r).2.2.2.2 : Nat) : Int)) (by show _ = ((zlast s.2.2.1 t r : Nat) : Int); unfold zlast; rw [hz9]; omega) ?_
                            refine z_iast (ws' := [((B 0), .inr (5, [.ref ((B 1)), .ref ((B 2)), .int (iI ((q0 : Int))), .ref ((B 3)), .int (iI ((q1 : Int))), .ref ((B 4)), .ref ((B 5)), .int (iI ((q2 : Int))), .int (iI ((q3 : Int))), .int (iI ((q4 : Int))), .ref ((B 6)), .ref ((B 7)), .int (iI ((q5 : Int))), .int (iI ((q6 : Int))), .ref ((B 8)), .ref ((B 9)), .ref ((B 10)), .ref ((B 11)), .ref ((B 12)), .int (iI ((q7 : Int)))])), cI G (B 1) 1547 M, cI G (B 8) 64 (zU K0 q5 ((zit s.1 s.2.2.1 t r).1)), cI G (B 9) 64 (zU K1 q5 (((zit s.1 s.2.2.1 t r).2.1 : Nat) : Int)), cI G (B 10) 64 (zU K2 q5 (((zit s.1 s.2.2.1 t r).2.2.1 : Nat) : Int)), cI G (B 11) 64 (zU K3 q5 (((zit s.1 s.2.2.1 t r).2.2.2.1 : Nat) : Int)), cI G (B 12) 64 (zU K4 q5 (((zit s.1 s.2.2.1 t r).2.2.2.2 : Nat) : Int))]) (pc := 247) C dX5_tells_247 6 rfl (q5) (by omega) (by omega) (by decide) rfl ?_
                            refine z_iconst (pc := 248) C dX5_tells_248 ?_
                            exact z_zret (pc := 249) C R0 (by decide) dX5_tells_249 (⟨rfl, rfl⟩)
            · have hm : (i + 1) * r ≤ 8 * 40 := Nat.mul_le_mul (by omega) hr.2
              have hvb := zvo_b s.1 (s.2.2.1 4) (t + (i + 1) * r) r
              have hai := zac_b s.1 (s.2.2.1 4) t r i
              have hac := zac_2048 s.1 (s.2.2.1 4) t r (n := i) (by omega)
              refine z_iload (pc := 52) C dX5_tells_52 4 rfl ?_
              refine z_aload_n (pc := 54) C dX5_tells_54 0 rfl ?_
              refine z_iload_n (pc := 55) C dX5_tells_55 1 rfl ?_
              refine z_iload (pc := 56) C dX5_tells_56 5 rfl ?_
              refine z_iload_n (pc := 58) C dX5_tells_58 2 rfl ?_
              refine z_imul (pc := 59) C dX5_tells_59 ?_
              refine z_iadd (pc := 60) C dX5_tells_60 ?_
              refine z_iload_n (pc := 61) C dX5_tells_61 2 rfl ?_
              refine z_callV (As := [.int (iI (((t : Int) + ((((i + 1) : Nat) : Int) * (r : Int))))), .int (iI ((r : Int)))]) (rest := [.int (iI ((((zac s.1 (s.2.2.1 4) t r i / 2) : Nat) : Int)))]) (wc := [((B 0), .inr (5, [.ref ((B 1)), .ref ((B 2)), .int (iI ((q0 : Int))), .ref ((B 3)), .int (iI ((q1 : Int))), .ref ((B 4)), .ref ((B 5)), .int (iI ((q2 : Int))), .int (iI ((q3 : Int))), .int (iI ((q4 : Int))), .ref ((B 6)), .ref ((B 7)), .int (iI ((q5 : Int))), .int (iI ((q6 : Int))), .ref ((B 8)), .ref ((B 9)), .ref ((B 10)), .ref ((B 11)), .ref ((B 12)), .int (iI ((q7 : Int)))])), cI G (B 1) 1547 M, cI G (B 11) 64 (zU K3 q5 ((zdc s.1 t r i : Nat) : Int))]) (wr := [cI G (B 8) 64 K0, cI G (B 9) 64 K1, cI G (B 10) 64 K2, cI G (B 12) 64 K4]) (fs := [.ref ((B 1)), .ref ((B 2)), .int (iI ((q0 : Int))), .ref ((B 3)), .int (iI ((q1 : Int))), .ref ((B 4)), .ref ((B 5)), .int (iI ((q2 : Int))), .int (iI ((q3 : Int))), .int (iI ((q4 : Int))), .ref ((B 6)), .ref ((B 7)), .int (iI ((q5 : Int))), .int (iI ((q6 : Int))), .ref ((B 8)), .ref ((B 9)), .ref ((B 10)), .ref ((B 11)), .ref ((B 12)), .int (iI ((q7 : Int)))]) (pc := 62) C dX5_tells_62 (k_X5_bit l G B q0 q1 q2 q3 q4 q5 q6 q7 M (zU K3 q5 ((zdc s.1 t r i : Nat) : Int)) (t + (i + 1) * r) r s hs hM (by omega) hr (by omega)) gX5_tells_X5_bit ⟨⟨_, rfl⟩, ⟨rfl, rfl⟩, nyX5_bit, ⟨Nat.le_of_ble_eq_true rfl, Nat.le_of_ble_eq_true rfl⟩⟩ rfl zCl5 rfl (fun h => h) rfl (Nat.le_of_ble_eq_true rfl) [0, 1, 5] [2, 3, 4, 6] rfl rfl (by decide) (by decide) (by decide) ⟨Nat.le_of_ble_eq_true rfl, Nat.le_of_ble_eq_true rfl⟩ (fun v w hk => ?_)
              obtain ⟨rfl, rfl⟩ := hk
              refine z_fix (pc2 := 65) (st2 := [.int (iI ((((zvo s.1 (s.2.2.1 4) (t + (i + 1) * r) r) : Nat) : Int))), .int (iI ((((zac s.1 (s.2.2.1 4) t r i / 2) : Nat) : Int)))]) (ws' := [((B 0), .inr (5, [.ref ((B 1)), .ref ((B 2)), .int (iI ((q0 : Int))), .ref ((B 3)), .int (iI ((q1 : Int))), .ref ((B 4)), .ref ((B 5)), .int (iI ((q2 : Int))), .int (iI ((q3 : Int))), .int (iI ((q4 : Int))), .ref ((B 6)), .ref ((B 7)), .int (iI ((q5 : Int))), .int (iI ((q6 : Int))), .ref ((B 8)), .ref ((B 9)), .ref ((B 10)), .ref ((B 11)), .ref ((B 12)), .int (iI ((q7 : Int)))])), cI G (B 1) 1547 M, cI G (B 8) 64 K0, cI G (B 9) 64 K1, cI G (B 10) 64 K2, cI G (B 11) 64 (zU (zU K3 q5 ((zdc s.1 t r i : Nat) : Int)) q5 ((zU K3 q5 ((zdc s.1 t r i : Nat) : Int)) q5 + ((zdo s.1 (t + (i + 1) * r) r : Nat) : Int))), cI G (B 12) 64 K4]) [4, 5, 0, 1, 2, 6, 3] rfl rfl rfl (by decide) ?_
              refine z_rowI (F' := (zU K3 q5 ((zdc s.1 t r (i + 1) : Nat) : Int))) (ws' := [((B 0), .inr (5, [.ref ((B 1)), .ref ((B 2)), .int (iI ((q0 : Int))), .ref ((B 3)), .int (iI ((q1 : Int))), .ref ((B 4)), .ref ((B 5)), .int (iI ((q2 : Int))), .int (iI ((q3 : Int))), .int (iI ((q4 : Int))), .ref ((B 6)), .ref ((B 7)), .int (iI ((q5 : Int))), .int (iI ((q6 : Int))), .ref ((B 8)), .ref ((B 9)), .ref ((B 10)), .ref ((B 11)), .ref ((B 12)), .int (iI ((q7 : Int)))])), cI G (B 1) 1547 M, cI G (B 8) 64 K0, cI G (B 9) 64 K1, cI G (B 10) 64 K2, cI G (B 11) 64 (zU K3 q5 ((zdc s.1 t r (i + 1) : Nat) : Int)), cI G (B 12) 64 K4]) 5 rfl (fun j _ => zU_acc K3 q5 _ _ j) rfl ?_
              refine z_iload (pc := 65) C dX5_tells_65 5 rfl ?_
              refine z_iconst (pc := 67) C dX5_tells_67 ?_
              refine z_isub (pc := 68) C dX5_tells_68 ?_
              refine z_topi (y := (i : Int)) (by omega) ?_
              refine z_ishl (pc := 69) C dX5_tells_69 (by omega) ⟨by omega, by omega⟩ (by rw [Int.toNat_natCast]; exact Int.le_trans (zshb hvb (by omega)) (by decide)) ?_
              refine z_topi (y := (((zvo s.1 (s.2.2.1 4) (t + (i + 1) * r) r : Nat) : Int) * 2 ^ i)) (by rw [Int.toNat_natCast]) ?_
              refine z_ior (pc := 70) C dX5_tells_70 ⟨by omega, by omega⟩ ⟨zshb0, Int.le_trans (zshb hvb (by omega)) (by decide)⟩ ?_
              refine z_topi (y := (((zac s.1 (s.2.2.1 4) t r (i + 1) / 2) : Nat) : Int)) (zac_h _ _ _ _ _) ?_
              refine z_istore (lv' := [(4, .int (iI ((((zac s.1 (s.2.2.1 4) t r (i + 1) / 2) : Nat) : Int)))), (0, .ref ((B 0))), (1, .int (iI ((t : Int)))), (2, .int (iI ((r : Int)))), (3, .int (iI 11)), (5, .int (iI ((((i + 1) : Nat) : Int))))]) (pc := 71) C dX5_tells_71 (by decide) rfl ?_
              refine z_iinc (lv' := [(5, .int (iI (((((i + 1) : Nat) : Int) + 1)))), (4, .int (iI ((((zac s.1 (s.2.2.1 4) t r (i + 1) / 2) : Nat) : Int)))), (0, .ref ((B 0))), (1, .int (iI ((t : Int)))), (2, .int (iI ((r : Int)))), (3, .int (iI 11))]) (pc := 73) C dX5_tells_73 5 rfl (by decide) rfl ?_
              refine z_goto (tgt := 45) (pc := 76) C dX5_tells_76 (by decide) ?_
              refine z_lv (lv' := [(0, .ref ((B 0))), (1, .int (iI ((t : Int)))), (2, .int (iI ((r : Int)))), (3, .int (iI 11)), (4, .int (iI ((((zac s.1 (s.2.2.1 4) t r (i + 1) / 2) : Nat) : Int)))), (5, .int (iI (((((i + 1) : Nat) : Int) + 1))))]) [2, 3, 4, 5, 1, 0] rfl ?_
              exact ih (i + 1) (by omega) (by omega)
        refine z_lv (lv' := [(0, .ref ((B 0))), (1, .int (iI ((t : Int)))), (2, .int (iI ((r : Int)))), (3, .int (iI 11)), (4, .int (iI ((((zac s.1 (s.2.2.1 4) t r 0 / 2) : Nat) : Int)))), (5, .int (iI 1))]) [3, 4, 5, 2, 1, 0] rfl ?_
        exact L45 9 0 (by omega) (by omega)
  · exfalso; omega
