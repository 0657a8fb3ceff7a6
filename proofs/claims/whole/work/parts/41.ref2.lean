/-! THE REFERENCE, walked: copies, bits of words, levels -/
set_option maxHeartbeats 4000000 in
set_option maxRecDepth 100000 in
theorem k_X5_within (l : Launch) (G : ZG)  (z : Int) (x : Int) (y : Int) (hz : iR z) (hx : iR x) (hy : iR y) : Kt l G yX5_within wsX5_within { frames := 0, cells := 0, slots := 0, locals := 0 } 0 0 False [.int (iI z), .int (iI x), .int (iI y)] [] (fun v9 w9 => ∃ (r : Int), ((r = 1 ∧ x ≤ z ∧ z ≤ y) ∨ (r = 0 ∧ (z < x ∨ y < z))) ∧ v9 = some (.int (iI r)) ∧ w9 = []) := by
  refine Kt.of (cc := cX5_within) (nL := 3) (ret := (some .boolean)) (own := RX5) rfl (by decide +kernel) rfl (Nat.le_of_ble_eq_true rfl) ?_
  intro X Y C R0 hin
  show Z l X G Y 3 0 0 0 [(0, .int (iI z)), (1, .int (iI x)), (2, .int (iI y))] [] []
  refine z_iload_n (pc := 0) C dX5_within_0 0 rfl ?_
  refine z_iload_n (pc := 1) C dX5_within_1 1 rfl ?_
  refine z_icmp_lt (tgt := 14) (pc := 2) C dX5_within_2 (by decide) ⟨by omega, by omega⟩ ⟨by omega, by omega⟩ (fun c2 => ?_) (fun c2 => ?_)
  · refine z_iconst (pc := 14) C dX5_within_14 ?_
    exact z_zret (pc := 15) C R0 (by decide) dX5_within_15 (⟨0, Or.inr ⟨rfl, by omega⟩, rfl, rfl⟩)
  · refine z_iload_n (pc := 5) C dX5_within_5 0 rfl ?_
    refine z_iload_n (pc := 6) C dX5_within_6 2 rfl ?_
    refine z_icmp_gt (tgt := 14) (pc := 7) C dX5_within_7 (by decide) ⟨by omega, by omega⟩ ⟨by omega, by omega⟩ (fun c7 => ?_) (fun c7 => ?_)
    · refine z_iconst (pc := 14) C dX5_within_14 ?_
      exact z_zret (pc := 15) C R0 (by decide) dX5_within_15 (⟨0, Or.inr ⟨rfl, by omega⟩, rfl, rfl⟩)
    · refine z_iconst (pc := 10) C dX5_within_10 ?_
      refine z_goto (tgt := 15) (pc := 11) C dX5_within_11 (by decide) ?_
      exact z_zret (pc := 15) C R0 (by decide) dX5_within_15 (⟨1, Or.inl ⟨rfl, by omega⟩, rfl, rfl⟩)

theorem ffX5_putAside_19 : zFF wsX5_putAside RX5 19 RX5 TX5 20 5 := ⟨by decide +kernel, by decide, by decide +kernel⟩
theorem ffX5_putAside_7 : zFF wsX5_putAside RX5 7 RX5 TX5 20 0 := ⟨by decide +kernel, by decide, by decide +kernel⟩
set_option maxHeartbeats 4000000 in
set_option maxRecDepth 100000 in
theorem k_X5_putAside (l : Launch) (G : ZG) (B : Nat → Nat) (q0 q1 q2 q3 q4 q5 q6 q7 : Nat) (M Q : Nat → Int) : Kt l G yX5_putAside wsX5_putAside { frames := 0, cells := 0, slots := 0, locals := 0 } 0 0 False [.ref ((B 0))] [((B 0), .inr (5, [.ref ((B 1)), .ref ((B 2)), .int (iI ((q0 : Int))), .ref ((B 3)), .int (iI ((q1 : Int))), .ref ((B 4)), .ref ((B 5)), .int (iI ((q2 : Int))), .int (iI ((q3 : Int))), .int (iI ((q4 : Int))), .ref ((B 6)), .ref ((B 7)), .int (iI ((q5 : Int))), .int (iI ((q6 : Int))), .ref ((B 8)), .ref ((B 9)), .ref ((B 10)), .ref ((B 11)), .ref ((B 12)), .int (iI ((q7 : Int)))])), cI G (B 1) 1547 M, cI G (B 4) 1547 Q] (fun v9 w9 => v9 = none ∧ w9 = [((B 0), .inr (5, [.ref ((B 1)), .ref ((B 2)), .int (iI ((q0 : Int))), .ref ((B 3)), .int (iI ((q1 : Int))), .ref ((B 4)), .ref ((B 5)), .int (iI ((q2 : Int))), .int (iI ((q3 : Int))), .int (iI ((q4 : Int))), .ref ((B 6)), .ref ((B 7)), .int (iI ((q5 : Int))), .int (iI ((q6 : Int))), .ref ((B 8)), .ref ((B 9)), .ref ((B 10)), .ref ((B 11)), .ref ((B 12)), .int (iI ((q7 : Int)))])), cI G (B 1) 1547 M, cI G (B 4) 1547 M]) := by
  refine Kt.of (cc := cX5_putAside) (nL := 2) (ret := none) (own := RX5) rfl (by decide +kernel) rfl (Nat.le_of_ble_eq_true rfl) ?_
  intro X Y C R0 hin
  show Z l X G Y 2 0 0 0 [(0, .ref ((B 0)))] [] [((B 0), .inr (5, [.ref ((B 1)), .ref ((B 2)), .int (iI ((q0 : Int))), .ref ((B 3)), .int (iI ((q1 : Int))), .ref ((B 4)), .ref ((B 5)), .int (iI ((q2 : Int))), .int (iI ((q3 : Int))), .int (iI ((q4 : Int))), .ref ((B 6)), .ref ((B 7)), .int (iI ((q5 : Int))), .int (iI ((q6 : Int))), .ref ((B 8)), .ref ((B 9)), .ref ((B 10)), .ref ((B 11)), .ref ((B 12)), .int (iI ((q7 : Int)))])), cI G (B 1) 1547 M, cI G (B 4) 1547 Q]
  refine z_iconst (pc := 0) C dX5_putAside_0 ?_
  refine z_istore_n (lv' := [(1, .int (iI 0)), (0, .ref ((B 0)))]) (pc := 1) C dX5_putAside_1 (by decide) rfl ?_
  have L2 : ∀ (n : Nat) (i : Nat), 1547 < i + n → i ≤ 1547 → Z l X G Y 2 0 0 2 [(0, .ref ((B 0))), (1, .int (iI ((i : Int))))] [] [((B 0), .inr (5, [.ref ((B 1)), .ref ((B 2)), .int (iI ((q0 : Int))), .ref ((B 3)), .int (iI ((q1 : Int))), .ref ((B 4)), .ref ((B 5)), .int (iI ((q2 : Int))), .int (iI ((q3 : Int))), .int (iI ((q4 : Int))), .ref ((B 6)), .ref ((B 7)), .int (iI ((q5 : Int))), .int (iI ((q6 : Int))), .ref ((B 8)), .ref ((B 9)), .ref ((B 10)), .ref ((B 11)), .ref ((B 12)), .int (iI ((q7 : Int)))])), cI G (B 1) 1547 M, cI G (B 4) 1547 (zcp Q M i)] := by
    intro n
    induction n with
    | zero => intro i hn hi; exact absurd hn (by omega)
    | succ n ih =>
      intro i hn hi
      refine z_iload_n (pc := 2) C dX5_putAside_2 1 rfl ?_
      refine z_sipush (pc := 3) C dX5_putAside_3 (by decide +kernel) ?_
      refine z_icmp_ge (tgt := 27) (pc := 6) C dX5_putAside_6 (by decide) ⟨by omega, by omega⟩ (by decide) (fun c6 => ?_) (fun c6 => ?_)
      · obtain rfl : i = 1547 := by omega
        refine z_rowI (F' := M) (ws' := [((B 0), .inr (5, [.ref ((B 1)), .ref ((B 2)), .int (iI ((q0 : Int))), .ref ((B 3)), .int (iI ((q1 : Int))), .ref ((B 4)), .ref ((B 5)), .int (iI ((q2 : Int))), .int (iI ((q3 : Int))), .int (iI ((q4 : Int))), .ref ((B 6)), .ref ((B 7)), .int (iI ((q5 : Int))), .int (iI ((q6 : Int))), .ref ((B 8)), .ref ((B 9)), .ref ((B 10)), .ref ((B 11)), .ref ((B 12)), .int (iI ((q7 : Int)))])), cI G (B 1) 1547 M, cI G (B 4) 1547 M]) 2 rfl (zcp_n) rfl ?_
        exact z_vret (pc := 27) C R0 dX5_putAside_27 (⟨rfl, rfl⟩)
      · refine z_aload_n (pc := 9) C dX5_putAside_9 0 rfl ?_
        refine z_get (pc := 10) C dX5_putAside_10 zCl5 ffX5_putAside_19 0 rfl rfl ?_
        refine z_iload_n (pc := 13) C dX5_putAside_13 1 rfl ?_
        refine z_aload_n (pc := 14) C dX5_putAside_14 0 rfl ?_
        refine z_get (pc := 15) C dX5_putAside_15 zCl5 ffX5_putAside_7 0 rfl rfl ?_
        refine z_iload_n (pc := 18) C dX5_putAside_18 1 rfl ?_
        refine z_iald (pc := 19) C dX5_putAside_19 1 rfl (i) (by omega) (by omega) (by decide) ?_
        refine z_iast (ws' := [((B 0), .inr (5, [.ref ((B 1)), .ref ((B 2)), .int (iI ((q0 : Int))), .ref ((B 3)), .int (iI ((q1 : Int))), .ref ((B 4)), .ref ((B 5)), .int (iI ((q2 : Int))), .int (iI ((q3 : Int))), .int (iI ((q4 : Int))), .ref ((B 6)), .ref ((B 7)), .int (iI ((q5 : Int))), .int (iI ((q6 : Int))), .ref ((B 8)), .ref ((B 9)), .ref ((B 10)), .ref ((B 11)), .ref ((B 12)), .int (iI ((q7 : Int)))])), cI G (B 1) 1547 M, cI G (B 4) 1547 (zU (zcp Q M i) i (M i))]) (pc := 20) C dX5_putAside_20 2 rfl (i) (by omega) (by omega) (by decide) rfl ?_
        refine z_iinc (lv' := [(1, .int (iI (((i : Int) + 1)))), (0, .ref ((B 0)))]) (pc := 21) C dX5_putAside_21 1 rfl (by decide) rfl ?_
        refine z_goto (tgt := 2) (pc := 24) C dX5_putAside_24 (by decide) ?_
        refine z_lv (lv' := [(0, .ref ((B 0))), (1, .int (iI (((i : Int) + 1))))]) [1, 0] rfl ?_
        refine z_ws (ws' := [((B 0), .inr (5, [.ref ((B 1)), .ref ((B 2)), .int (iI ((q0 : Int))), .ref ((B 3)), .int (iI ((q1 : Int))), .ref ((B 4)), .ref ((B 5)), .int (iI ((q2 : Int))), .int (iI ((q3 : Int))), .int (iI ((q4 : Int))), .ref ((B 6)), .ref ((B 7)), .int (iI ((q5 : Int))), .int (iI ((q6 : Int))), .ref ((B 8)), .ref ((B 9)), .ref ((B 10)), .ref ((B 11)), .ref ((B 12)), .int (iI ((q7 : Int)))])), cI G (B 1) 1547 M, cI G (B 4) 1547 (zcp Q M (i + 1))]) [0, 1, 2] (by rw [← zcp_s]; rfl) (by decide) ?_
        exact ih (i + 1) (by omega) (by omega)
  refine z_lv (lv' := [(0, .ref ((B 0))), (1, .int (iI 0))]) [1, 0] rfl ?_
  refine z_ws (ws' := [((B 0), .inr (5, [.ref ((B 1)), .ref ((B 2)), .int (iI ((q0 : Int))), .ref ((B 3)), .int (iI ((q1 : Int))), .ref ((B 4)), .ref ((B 5)), .int (iI ((q2 : Int))), .int (iI ((q3 : Int))), .int (iI ((q4 : Int))), .ref ((B 6)), .ref ((B 7)), .int (iI ((q5 : Int))), .int (iI ((q6 : Int))), .ref ((B 8)), .ref ((B 9)), .ref ((B 10)), .ref ((B 11)), .ref ((B 12)), .int (iI ((q7 : Int)))])), cI G (B 1) 1547 M, cI G (B 4) 1547 (zcp Q M 0)]) [0, 1, 2] (by rw [zcp_0]; rfl) (by decide) ?_
  exact L2 1548 0 (by omega) (by omega)

theorem ffX5_takeBack_7 : zFF wsX5_takeBack RX5 7 RX5 TX5 20 0 := ⟨by decide +kernel, by decide, by decide +kernel⟩
theorem ffX5_takeBack_19 : zFF wsX5_takeBack RX5 19 RX5 TX5 20 5 := ⟨by decide +kernel, by decide, by decide +kernel⟩
set_option maxHeartbeats 4000000 in
set_option maxRecDepth 100000 in
theorem k_X5_takeBack (l : Launch) (G : ZG) (B : Nat → Nat) (q0 q1 q2 q3 q4 q5 q6 q7 : Nat) (Q M : Nat → Int) : Kt l G yX5_takeBack wsX5_takeBack { frames := 0, cells := 0, slots := 0, locals := 0 } 0 0 False [.ref ((B 0))] [((B 0), .inr (5, [.ref ((B 1)), .ref ((B 2)), .int (iI ((q0 : Int))), .ref ((B 3)), .int (iI ((q1 : Int))), .ref ((B 4)), .ref ((B 5)), .int (iI ((q2 : Int))), .int (iI ((q3 : Int))), .int (iI ((q4 : Int))), .ref ((B 6)), .ref ((B 7)), .int (iI ((q5 : Int))), .int (iI ((q6 : Int))), .ref ((B 8)), .ref ((B 9)), .ref ((B 10)), .ref ((B 11)), .ref ((B 12)), .int (iI ((q7 : Int)))])), cI G (B 4) 1547 Q, cI G (B 1) 1547 M] (fun v9 w9 => v9 = none ∧ w9 = [((B 0), .inr (5, [.ref ((B 1)), .ref ((B 2)), .int (iI ((q0 : Int))), .ref ((B 3)), .int (iI ((q1 : Int))), .ref ((B 4)), .ref ((B 5)), .int (iI ((q2 : Int))), .int (iI ((q3 : Int))), .int (iI ((q4 : Int))), .ref ((B 6)), .ref ((B 7)), .int (iI ((q5 : Int))), .int (iI ((q6 : Int))), .ref ((B 8)), .ref ((B 9)), .ref ((B 10)), .ref ((B 11)), .ref ((B 12)), .int (iI ((q7 : Int)))])), cI G (B 4) 1547 Q, cI G (B 1) 1547 Q]) := by
  refine Kt.of (cc := cX5_takeBack) (nL := 2) (ret := none) (own := RX5) rfl (by decide +kernel) rfl (Nat.le_of_ble_eq_true rfl) ?_
  intro X Y C R0 hin
  show Z l X G Y 2 0 0 0 [(0, .ref ((B 0)))] [] [((B 0), .inr (5, [.ref ((B 1)), .ref ((B 2)), .int (iI ((q0 : Int))), .ref ((B 3)), .int (iI ((q1 : Int))), .ref ((B 4)), .ref ((B 5)), .int (iI ((q2 : Int))), .int (iI ((q3 : Int))), .int (iI ((q4 : Int))), .ref ((B 6)), .ref ((B 7)), .int (iI ((q5 : Int))), .int (iI ((q6 : Int))), .ref ((B 8)), .ref ((B 9)), .ref ((B 10)), .ref ((B 11)), .ref ((B 12)), .int (iI ((q7 : Int)))])), cI G (B 4) 1547 Q, cI G (B 1) 1547 M]
  refine z_iconst (pc := 0) C dX5_takeBack_0 ?_
  refine z_istore_n (lv' := [(1, .int (iI 0)), (0, .ref ((B 0)))]) (pc := 1) C dX5_takeBack_1 (by decide) rfl ?_
  have L2 : ∀ (n : Nat) (i : Nat), 1547 < i + n → i ≤ 1547 → Z l X G Y 2 0 0 2 [(0, .ref ((B 0))), (1, .int (iI ((i : Int))))] [] [((B 0), .inr (5, [.ref ((B 1)), .ref ((B 2)), .int (iI ((q0 : Int))), .ref ((B 3)), .int (iI ((q1 : Int))), .ref ((B 4)), .ref ((B 5)), .int (iI ((q2 : Int))), .int (iI ((q3 : Int))), .int (iI ((q4 : Int))), .ref ((B 6)), .ref ((B 7)), .int (iI ((q5 : Int))), .int (iI ((q6 : Int))), .ref ((B 8)), .ref ((B 9)), .ref ((B 10)), .ref ((B 11)), .ref ((B 12)), .int (iI ((q7 : Int)))])), cI G (B 4) 1547 Q, cI G (B 1) 1547 (zcp M Q i)] := by
    intro n
    induction n with
    | zero => intro i hn hi; exact absurd hn (by omega)
    | succ n ih =>
      intro i hn hi
      refine z_iload_n (pc := 2) C dX5_takeBack_2 1 rfl ?_
      refine z_sipush (pc := 3) C dX5_takeBack_3 (by decide +kernel) ?_
      refine z_icmp_ge (tgt := 27) (pc := 6) C dX5_takeBack_6 (by decide) ⟨by omega, by omega⟩ (by decide) (fun c6 => ?_) (fun c6 => ?_)
      · obtain rfl : i = 1547 := by omega
        refine z_rowI (F' := Q) (ws' := [((B 0), .inr (5, [.ref ((B 1)), .ref ((B 2)), .int (iI ((q0 : Int))), .ref ((B 3)), .int (iI ((q1 : Int))), .ref ((B 4)), .ref ((B 5)), .int (iI ((q2 : Int))), .int (iI ((q3 : Int))), .int (iI ((q4 : Int))), .ref ((B 6)), .ref ((B 7)), .int (iI ((q5 : Int))), .int (iI ((q6 : Int))), .ref ((B 8)), .ref ((B 9)), .ref ((B 10)), .ref ((B 11)), .ref ((B 12)), .int (iI ((q7 : Int)))])), cI G (B 4) 1547 Q, cI G (B 1) 1547 Q]) 2 rfl (zcp_n) rfl ?_
        exact z_vret (pc := 27) C R0 dX5_takeBack_27 (⟨rfl, rfl⟩)
      · refine z_aload_n (pc := 9) C dX5_takeBack_9 0 rfl ?_
        refine z_get (pc := 10) C dX5_takeBack_10 zCl5 ffX5_takeBack_7 0 rfl rfl ?_
        refine z_iload_n (pc := 13) C dX5_takeBack_13 1 rfl ?_
        refine z_aload_n (pc := 14) C dX5_takeBack_14 0 rfl ?_
        refine z_get (pc := 15) C dX5_takeBack_15 zCl5 ffX5_takeBack_19 0 rfl rfl ?_
        refine z_iload_n (pc := 18) C dX5_takeBack_18 1 rfl ?_
        refine z_iald (pc := 19) C dX5_takeBack_19 1 rfl (i) (by omega) (by omega) (by decide) ?_
        refine z_iast (ws' := [((B 0), .inr (5, [.ref ((B 1)), .ref ((B 2)), .int (iI ((q0 : Int))), .ref ((B 3)), .int (iI ((q1 : Int))), .ref ((B 4)), .ref ((B 5)), .int (iI ((q2 : Int))), .int (iI ((q3 : Int))), .int (iI ((q4 : Int))), .ref ((B 6)), .ref ((B 7)), .int (iI ((q5 : Int))), .int (iI ((q6 : Int))), .ref ((B 8)), .ref ((B 9)), .ref ((B 10)), .ref ((B 11)), .ref ((B 12)), .int (iI ((q7 : Int)))])), cI G (B 4) 1547 Q, cI G (B 1) 1547 (zU (zcp M Q i) i (Q i))]) (pc := 20) C dX5_takeBack_20 2 rfl (i) (by omega) (by omega) (by decide) rfl ?_
        refine z_iinc (lv' := [(1, .int (iI (((i : Int) + 1)))), (0, .ref ((B 0)))]) (pc := 21) C dX5_takeBack_21 1 rfl (by decide) rfl ?_
        refine z_goto (tgt := 2) (pc := 24) C dX5_takeBack_24 (by decide) ?_
        refine z_lv (lv' := [(0, .ref ((B 0))), (1, .int (iI (((i : Int) + 1))))]) [1, 0] rfl ?_
        refine z_ws (ws' := [((B 0), .inr (5, [.ref ((B 1)), .ref ((B 2)), .int (iI ((q0 : Int))), .ref ((B 3)), .int (iI ((q1 : Int))), .ref ((B 4)), .ref ((B 5)), .int (iI ((q2 : Int))), .int (iI ((q3 : Int))), .int (iI ((q4 : Int))), .ref ((B 6)), .ref ((B 7)), .int (iI ((q5 : Int))), .int (iI ((q6 : Int))), .ref ((B 8)), .ref ((B 9)), .ref ((B 10)), .ref ((B 11)), .ref ((B 12)), .int (iI ((q7 : Int)))])), cI G (B 4) 1547 Q, cI G (B 1) 1547 (zcp M Q (i + 1))]) [0, 1, 2] (by rw [← zcp_s]; rfl) (by decide) ?_
        exact ih (i + 1) (by omega) (by omega)
  refine z_lv (lv' := [(0, .ref ((B 0))), (1, .int (iI 0))]) [1, 0] rfl ?_
  refine z_ws (ws' := [((B 0), .inr (5, [.ref ((B 1)), .ref ((B 2)), .int (iI ((q0 : Int))), .ref ((B 3)), .int (iI ((q1 : Int))), .ref ((B 4)), .ref ((B 5)), .int (iI ((q2 : Int))), .int (iI ((q3 : Int))), .int (iI ((q4 : Int))), .ref ((B 6)), .ref ((B 7)), .int (iI ((q5 : Int))), .int (iI ((q6 : Int))), .ref ((B 8)), .ref ((B 9)), .ref ((B 10)), .ref ((B 11)), .ref ((B 12)), .int (iI ((q7 : Int)))])), cI G (B 4) 1547 Q, cI G (B 1) 1547 (zcp M Q 0)]) [0, 1, 2] (by rw [zcp_0]; rfl) (by decide) ?_
  exact L2 1548 0 (by omega) (by omega)

theorem ffX5_push_46 : zFF wsX5_push RX5 46 RX5 TX5 20 2 := ⟨by decide +kernel, by decide, by decide +kernel⟩
theorem ffX5_push_13 : zFF wsX5_push RX5 13 RX5 TX5 20 1 := ⟨by decide +kernel, by decide, by decide +kernel⟩
theorem ffX5_push_19 : zFF wsX5_push RX5 19 RX5 TX5 20 5 := ⟨by decide +kernel, by decide, by decide +kernel⟩
set_option maxHeartbeats 4000000 in
set_option maxRecDepth 100000 in
theorem k_X5_push (l : Launch) (G : ZG) (B : Nat → Nat) (q0 q1 q2 q3 q4 q5 q6 q7 : Nat) (H Q : Nat → Int) (u : List ZS) (s : ZS) (hq : q0 = u.length) (hl : u.length ≤ 4) (hI : ∀ s ∈ u, zIs s) (hH : zHs H u) (hs : zIs s) (hQ : zMs Q s) : Kt l G yX5_push wsX5_push { frames := 0, cells := 0, slots := 0, locals := 0 } 0 0 False [.ref ((B 0))] [((B 0), .inr (5, [.ref ((B 1)), .ref ((B 2)), .int (iI ((q0 : Int))), .ref ((B 3)), .int (iI ((q1 : Int))), .ref ((B 4)), .ref ((B 5)), .int (iI ((q2 : Int))), .int (iI ((q3 : Int))), .int (iI ((q4 : Int))), .ref ((B 6)), .ref ((B 7)), .int (iI ((q5 : Int))), .int (iI ((q6 : Int))), .ref ((B 8)), .ref ((B 9)), .ref ((B 10)), .ref ((B 11)), .ref ((B 12)), .int (iI ((q7 : Int)))])), cI G (B 2) 6188 H, cI G (B 4) 1547 Q] (fun v9 w9 => ∃ (H9 : Nat → Int), (zHs H9 (zpush u s)) ∧ v9 = none ∧ w9 = [((B 0), .inr (5, [.ref ((B 1)), .ref ((B 2)), .int (iI ((((zpush u s).length : Nat) : Int))), .ref ((B 3)), .int (iI ((q1 : Int))), .ref ((B 4)), .ref ((B 5)), .int (iI ((q2 : Int))), .int (iI ((q3 : Int))), .int (iI ((q4 : Int))), .ref ((B 6)), .ref ((B 7)), .int (iI ((q5 : Int))), .int (iI ((q6 : Int))), .ref ((B 8)), .ref ((B 9)), .ref ((B 10)), .ref ((B 11)), .ref ((B 12)), .int (iI ((q7 : Int)))])), cI G (B 2) 6188 H9, cI G (B 4) 1547 Q]) := by
  refine Kt.of (cc := cX5_push) (nL := 2) (ret := none) (own := RX5) rfl (by decide +kernel) rfl (Nat.le_of_ble_eq_true rfl) ?_
  intro X Y C R0 hin
  show Z l X G Y 2 0 0 0 [(0, .ref ((B 0)))] [] [((B 0), .inr (5, [.ref ((B 1)), .ref ((B 2)), .int (iI ((q0 : Int))), .ref ((B 3)), .int (iI ((q1 : Int))), .ref ((B 4)), .ref ((B 5)), .int (iI ((q2 : Int))), .int (iI ((q3 : Int))), .int (iI ((q4 : Int))), .ref ((B 6)), .ref ((B 7)), .int (iI ((q5 : Int))), .int (iI ((q6 : Int))), .ref ((B 8)), .ref ((B 9)), .ref ((B 10)), .ref ((B 11)), .ref ((B 12)), .int (iI ((q7 : Int)))])), cI G (B 2) 6188 H, cI G (B 4) 1547 Q]
  refine z_aload_n (pc := 0) C dX5_push_0 0 rfl ?_
  refine z_get (pc := 1) C dX5_push_1 zCl5 ffX5_push_46 0 rfl rfl ?_
  refine z_iconst (pc := 4) C dX5_push_4 ?_
  have J49 : ∀ (H1 : Nat → Int) (u1 : List ZS), u1.length ≤ 3 → (∀ s ∈ u1, zIs s) → zHs H1 u1 → zpush u s = u1 ++ [s] → Z l X G Y 2 0 0 49 [(0, .ref ((B 0)))] [] [((B 0), .inr (5, [.ref ((B 1)), .ref ((B 2)), .int (iI (((u1.length : Nat) : Int))), .ref ((B 3)), .int (iI ((q1 : Int))), .ref ((B 4)), .ref ((B 5)), .int (iI ((q2 : Int))), .int (iI ((q3 : Int))), .int (iI ((q4 : Int))), .ref ((B 6)), .ref ((B 7)), .int (iI ((q5 : Int))), .int (iI ((q6 : Int))), .ref ((B 8)), .ref ((B 9)), .ref ((B 10)), .ref ((B 11)), .ref ((B 12)), .int (iI ((q7 : Int)))])), cI G (B 2) 6188 H1, cI G (B 4) 1547 Q] := by
    intro H1 u1 hl1 hI1 hH1 hp
    refine z_iconst (pc := 49) C dX5_push_49 ?_
    refine z_istore_n (lv' := [(1, .int (iI 0)), (0, .ref ((B 0)))]) (pc := 50) C dX5_push_50 (by decide) rfl ?_
    have L51 : ∀ (n : Nat) (i : Nat), 1547 < i + n → i ≤ 1547 → Z l X G Y 2 0 0 51 [(0, .ref ((B 0))), (1, .int (iI ((i : Int))))] [] [((B 0), .inr (5, [.ref ((B 1)), .ref ((B 2)), .int (iI (((u1.length : Nat) : Int))), .ref ((B 3)), .int (iI ((q1 : Int))), .ref ((B 4)), .ref ((B 5)), .int (iI ((q2 : Int))), .int (iI ((q3 : Int))), .int (iI ((q4 : Int))), .ref ((B 6)), .ref ((B 7)), .int (iI ((q5 : Int))), .int (iI ((q6 : Int))), .ref ((B 8)), .ref ((B 9)), .ref ((B 10)), .ref ((B 11)), .ref ((B 12)), .int (iI ((q7 : Int)))])), cI G (B 2) 6188 (zbk H1 Q (1547 * u1.length) i), cI G (B 4) 1547 Q] := by
      intro n
      induction n with
      | zero => intro i hn hi; exact absurd hn (by omega)
      | succ n ih =>
        intro i hn hi
        refine z_iload_n (pc := 51) C dX5_push_51 1 rfl ?_
        refine z_sipush (pc := 52) C dX5_push_52 (by decide +kernel) ?_
        refine z_icmp_ge (tgt := 85) (pc := 55) C dX5_push_55 (by decide) ⟨by omega, by omega⟩ (by decide) (fun c55 => ?_) (fun c55 => ?_)
        · obtain rfl : i = 1547 := by omega
          refine z_aload_n (pc := 85) C dX5_push_85 0 rfl ?_
          refine z_dup (pc := 86) C dX5_push_86 rfl ?_
          refine z_get (pc := 87) C dX5_push_87 zCl5 ffX5_push_46 0 rfl rfl ?_
          refine z_iconst (pc := 90) C dX5_push_90 ?_
          refine z_iadd (pc := 91) C dX5_push_91 ?_
          refine z_put (ty := .int) (ws' := [((B 0), .inr (5, [.ref ((B 1)), .ref ((B 2)), .int (iI ((((u1.length : Nat) : Int) + 1))), .ref ((B 3)), .int (iI ((q1 : Int))), .ref ((B 4)), .ref ((B 5)), .int (iI ((q2 : Int))), .int (iI ((q3 : Int))), .int (iI ((q4 : Int))), .ref ((B 6)), .ref ((B 7)), .int (iI ((q5 : Int))), .int (iI ((q6 : Int))), .ref ((B 8)), .ref ((B 9)), .ref ((B 10)), .ref ((B 11)), .ref ((B 12)), .int (iI ((q7 : Int)))])), cI G (B 2) 6188 (zbk H1 Q (1547 * u1.length) 1547), cI G (B 4) 1547 Q]) (pc := 92) C dX5_push_92 zCl5 ffX5_push_46 0 rfl rfl rfl rfl rfl (Nat.le_of_ble_eq_true rfl) rfl ?_
          refine z_ws (ws' := [((B 0), .inr (5, [.ref ((B 1)), .ref ((B 2)), .int (iI ((((zpush u s).length : Nat) : Int))), .ref ((B 3)), .int (iI ((q1 : Int))), .ref ((B 4)), .ref ((B 5)), .int (iI ((q2 : Int))), .int (iI ((q3 : Int))), .int (iI ((q4 : Int))), .ref ((B 6)), .ref ((B 7)), .int (iI ((q5 : Int))), .int (iI ((q6 : Int))), .ref ((B 8)), .ref ((B 9)), .ref ((B 10)), .ref ((B 11)), .ref ((B 12)), .int (iI ((q7 : Int)))])), cI G (B 2) 6188 (zbk H1 Q (1547 * u1.length) 1547), cI G (B 4) 1547 Q]) [0, 1, 2] (by rw [hp, List.length_append]; rfl) (by decide) ?_
          exact z_vret (pc := 95) C R0 dX5_push_95 (⟨_, by rw [hp]; exact zHs_add hH1 hI1 hs hQ, rfl, rfl⟩)
        · refine z_aload_n (pc := 58) C dX5_push_58 0 rfl ?_
          refine z_get (pc := 59) C dX5_push_59 zCl5 ffX5_push_13 0 rfl rfl ?_
          refine z_aload_n (pc := 62) C dX5_push_62 0 rfl ?_
          refine z_get (pc := 63) C dX5_push_63 zCl5 ffX5_push_46 0 rfl rfl ?_
          refine z_sipush (pc := 66) C dX5_push_66 (by decide +kernel) ?_
          refine z_imul (pc := 69) C dX5_push_69 ?_
          refine z_iload_n (pc := 70) C dX5_push_70 1 rfl ?_
          refine z_iadd (pc := 71) C dX5_push_71 ?_
          refine z_aload_n (pc := 72) C dX5_push_72 0 rfl ?_
          refine z_get (pc := 73) C dX5_push_73 zCl5 ffX5_push_19 0 rfl rfl ?_
          refine z_iload_n (pc := 76) C dX5_push_76 1 rfl ?_
          refine z_iald (pc := 77) C dX5_push_77 2 rfl (i) (by omega) (by omega) (by decide) ?_
          refine z_iast (ws' := [((B 0), .inr (5, [.ref ((B 1)), .ref ((B 2)), .int (iI (((u1.length : Nat) : Int))), .ref ((B 3)), .int (iI ((q1 : Int))), .ref ((B 4)), .ref ((B 5)), .int (iI ((q2 : Int))), .int (iI ((q3 : Int))), .int (iI ((q4 : Int))), .ref ((B 6)), .ref ((B 7)), .int (iI ((q5 : Int))), .int (iI ((q6 : Int))), .ref ((B 8)), .ref ((B 9)), .ref ((B 10)), .ref ((B 11)), .ref ((B 12)), .int (iI ((q7 : Int)))])), cI G (B 2) 6188 (zU (zbk H1 Q (1547 * u1.length) i) (1547 * u1.length + i) (Q i)), cI G (B 4) 1547 Q]) (pc := 78) C dX5_push_78 1 rfl ((1547 * u1.length + i)) (by omega) (by omega) (by decide) rfl ?_
          refine z_iinc (lv' := [(1, .int (iI (((i : Int) + 1)))), (0, .ref ((B 0)))]) (pc := 79) C dX5_push_79 1 rfl (by decide) rfl ?_
          refine z_goto (tgt := 51) (pc := 82) C dX5_push_82 (by decide) ?_
          refine z_lv (lv' := [(0, .ref ((B 0))), (1, .int (iI (((i : Int) + 1))))]) [1, 0] rfl ?_
          refine z_ws (ws' := [((B 0), .inr (5, [.ref ((B 1)), .ref ((B 2)), .int (iI (((u1.length : Nat) : Int))), .ref ((B 3)), .int (iI ((q1 : Int))), .ref ((B 4)), .ref ((B 5)), .int (iI ((q2 : Int))), .int (iI ((q3 : Int))), .int (iI ((q4 : Int))), .ref ((B 6)), .ref ((B 7)), .int (iI ((q5 : Int))), .int (iI ((q6 : Int))), .ref ((B 8)), .ref ((B 9)), .ref ((B 10)), .ref ((B 11)), .ref ((B 12)), .int (iI ((q7 : Int)))])), cI G (B 2) 6188 (zbk H1 Q (1547 * u1.length) (i + 1)), cI G (B 4) 1547 Q]) [0, 1, 2] (by rw [← zbk_s]; rfl) (by decide) ?_
          exact ih (i + 1) (by omega) (by omega)
    refine z_lv (lv' := [(0, .ref ((B 0))), (1, .int (iI 0))]) [1, 0] rfl ?_
    refine z_ws (ws' := [((B 0), .inr (5, [.ref ((B 1)), .ref ((B 2)), .int (iI (((u1.length : Nat) : Int))), .ref ((B 3)), .int (iI ((q1 : Int))), .ref ((B 4)), .ref ((B 5)), .int (iI ((q2 : Int))), .int (iI ((q3 : Int))), .int (iI ((q4 : Int))), .ref ((B 6)), .ref ((B 7)), .int (iI ((q5 : Int))), .int (iI ((q6 : Int))), .ref ((B 8)), .ref ((B 9)), .ref ((B 10)), .ref ((B 11)), .ref ((B 12)), .int (iI ((q7 : Int)))])), cI G (B 2) 6188 (zbk H1 Q (1547 * u1.length) 0), cI G (B 4) 1547 Q]) [0, 1, 2] (by rw [zbk_0]; rfl) (by decide) ?_
    exact L51 1548 0 (by omega) (by omega)
  refine z_icmp_ne (tgt := 49) (pc := 5) C dX5_push_5 (by decide) ⟨by omega, by omega⟩ (by decide) (fun c5 => ?_) (fun c5 => ?_)
  · refine z_ws (ws' := [((B 0), .inr (5, [.ref ((B 1)), .ref ((B 2)), .int (iI (((u.length : Nat) : Int))), .ref ((B 3)), .int (iI ((q1 : Int))), .ref ((B 4)), .ref ((B 5)), .int (iI ((q2 : Int))), .int (iI ((q3 : Int))), .int (iI ((q4 : Int))), .ref ((B 6)), .ref ((B 7)), .int (iI ((q5 : Int))), .int (iI ((q6 : Int))), .ref ((B 8)), .ref ((B 9)), .ref ((B 10)), .ref ((B 11)), .ref ((B 12)), .int (iI ((q7 : Int)))])), cI G (B 2) 6188 H, cI G (B 4) 1547 Q]) [0, 1, 2] (by rw [hq]; rfl) (by decide) ?_
    exact J49 H u (by omega) hI hH (by unfold zpush; rw [if_neg (by omega)])
  · refine z_iconst (pc := 8) C dX5_push_8 ?_
    refine z_istore_n (lv' := [(1, .int (iI 0)), (0, .ref ((B 0)))]) (pc := 9) C dX5_push_9 (by decide) rfl ?_
    have L10 : ∀ (n : Nat) (i : Nat), 4641 < i + n → i ≤ 4641 → Z l X G Y 2 0 0 10 [(0, .ref ((B 0))), (1, .int (iI ((i : Int))))] [] [((B 0), .inr (5, [.ref ((B 1)), .ref ((B 2)), .int (iI ((q0 : Int))), .ref ((B 3)), .int (iI ((q1 : Int))), .ref ((B 4)), .ref ((B 5)), .int (iI ((q2 : Int))), .int (iI ((q3 : Int))), .int (iI ((q4 : Int))), .ref ((B 6)), .ref ((B 7)), .int (iI ((q5 : Int))), .int (iI ((q6 : Int))), .ref ((B 8)), .ref ((B 9)), .ref ((B 10)), .ref ((B 11)), .ref ((B 12)), .int (iI ((q7 : Int)))])), cI G (B 2) 6188 (zsh H i), cI G (B 4) 1547 Q] := by
      intro n
      induction n with
      | zero => intro i hn hi; exact absurd hn (by omega)
      | succ n ih =>
        intro i hn hi
        refine z_iload_n (pc := 10) C dX5_push_10 1 rfl ?_
        refine z_sipush (pc := 11) C dX5_push_11 (by decide +kernel) ?_
        refine z_icmp_ge (tgt := 39) (pc := 14) C dX5_push_14 (by decide) ⟨by omega, by omega⟩ (by decide) (fun c14 => ?_) (fun c14 => ?_)
        · obtain rfl : i = 4641 := by omega
          refine z_aload_n (pc := 39) C dX5_push_39 0 rfl ?_
          refine z_dup (pc := 40) C dX5_push_40 rfl ?_
          refine z_get (pc := 41) C dX5_push_41 zCl5 ffX5_push_46 0 rfl rfl ?_
          refine z_iconst (pc := 44) C dX5_push_44 ?_
          refine z_isub (pc := 45) C dX5_push_45 ?_
          refine z_put (ty := .int) (ws' := [((B 0), .inr (5, [.ref ((B 1)), .ref ((B 2)), .int (iI (((q0 : Int) - 1))), .ref ((B 3)), .int (iI ((q1 : Int))), .ref ((B 4)), .ref ((B 5)), .int (iI ((q2 : Int))), .int (iI ((q3 : Int))), .int (iI ((q4 : Int))), .ref ((B 6)), .ref ((B 7)), .int (iI ((q5 : Int))), .int (iI ((q6 : Int))), .ref ((B 8)), .ref ((B 9)), .ref ((B 10)), .ref ((B 11)), .ref ((B 12)), .int (iI ((q7 : Int)))])), cI G (B 2) 6188 (zsh H 4641), cI G (B 4) 1547 Q]) (pc := 46) C dX5_push_46 zCl5 ffX5_push_46 0 rfl rfl rfl rfl rfl (Nat.le_of_ble_eq_true rfl) rfl ?_
          refine z_lv (lv' := [(0, .ref ((B 0)))]) [0] rfl ?_
          refine z_lv (lv' := [(0, .ref (B 0))]) [0] rfl ?_
          have hd3 : (u.drop 1).length = 3 := by rw [List.length_drop]; omega
          refine z_ws (ws' := [((B 0), .inr (5, [.ref ((B 1)), .ref ((B 2)), .int (iI ((((u.drop 1).length : Nat) : Int))), .ref ((B 3)), .int (iI ((q1 : Int))), .ref ((B 4)), .ref ((B 5)), .int (iI ((q2 : Int))), .int (iI ((q3 : Int))), .int (iI ((q4 : Int))), .ref ((B 6)), .ref ((B 7)), .int (iI ((q5 : Int))), .int (iI ((q6 : Int))), .ref ((B 8)), .ref ((B 9)), .ref ((B 10)), .ref ((B 11)), .ref ((B 12)), .int (iI ((q7 : Int)))])), cI G (B 2) 6188 (zsh H 4641), cI G (B 4) 1547 Q]) [0, 1, 2] (by rw [hd3, show ((3 : Nat) : Int) = ((q0 : Nat) : Int) - 1 by omega]; rfl) (by decide) ?_
          exact J49 (zsh H 4641) (u.drop 1) (by omega) (fun s h => hI s (List.mem_of_mem_drop h)) (zHs_drop hH (by omega) hI) (by unfold zpush; rw [if_pos (by omega)])
        · refine z_aload_n (pc := 17) C dX5_push_17 0 rfl ?_
          refine z_get (pc := 18) C dX5_push_18 zCl5 ffX5_push_13 0 rfl rfl ?_
          refine z_iload_n (pc := 21) C dX5_push_21 1 rfl ?_
          refine z_aload_n (pc := 22) C dX5_push_22 0 rfl ?_
          refine z_get (pc := 23) C dX5_push_23 zCl5 ffX5_push_13 0 rfl rfl ?_
          refine z_iload_n (pc := 26) C dX5_push_26 1 rfl ?_
          refine z_sipush (pc := 27) C dX5_push_27 (by decide +kernel) ?_
          refine z_iadd (pc := 30) C dX5_push_30 ?_
          refine z_iald (pc := 31) C dX5_push_31 1 rfl ((i + 1547)) (by omega) (by omega) (by decide) ?_
          refine z_iast (ws' := [((B 0), .inr (5, [.ref ((B 1)), .ref ((B 2)), .int (iI ((q0 : Int))), .ref ((B 3)), .int (iI ((q1 : Int))), .ref ((B 4)), .ref ((B 5)), .int (iI ((q2 : Int))), .int (iI ((q3 : Int))), .int (iI ((q4 : Int))), .ref ((B 6)), .ref ((B 7)), .int (iI ((q5 : Int))), .int (iI ((q6 : Int))), .ref ((B 8)), .ref ((B 9)), .ref ((B 10)), .ref ((B 11)), .ref ((B 12)), .int (iI ((q7 : Int)))])), cI G (B 2) 6188 (zU (zsh H i) i ((zsh H i) (i + 1547))), cI G (B 4) 1547 Q]) (pc := 32) C dX5_push_32 1 rfl (i) (by omega) (by omega) (by decide) rfl ?_
          refine z_iinc (lv' := [(1, .int (iI (((i : Int) + 1)))), (0, .ref ((B 0)))]) (pc := 33) C dX5_push_33 1 rfl (by decide) rfl ?_
          refine z_goto (tgt := 10) (pc := 36) C dX5_push_36 (by decide) ?_
          refine z_lv (lv' := [(0, .ref ((B 0))), (1, .int (iI (((i : Int) + 1))))]) [1, 0] rfl ?_
          refine z_ws (ws' := [((B 0), .inr (5, [.ref ((B 1)), .ref ((B 2)), .int (iI ((q0 : Int))), .ref ((B 3)), .int (iI ((q1 : Int))), .ref ((B 4)), .ref ((B 5)), .int (iI ((q2 : Int))), .int (iI ((q3 : Int))), .int (iI ((q4 : Int))), .ref ((B 6)), .ref ((B 7)), .int (iI ((q5 : Int))), .int (iI ((q6 : Int))), .ref ((B 8)), .ref ((B 9)), .ref ((B 10)), .ref ((B 11)), .ref ((B 12)), .int (iI ((q7 : Int)))])), cI G (B 2) 6188 (zsh H (i + 1)), cI G (B 4) 1547 Q]) [0, 1, 2] (by rw [← zsh_s, zsh_at H (show i ≤ i + 1547 by omega)]; rfl) (by decide) ?_
          exact ih (i + 1) (by omega) (by omega)
    refine z_lv (lv' := [(0, .ref ((B 0))), (1, .int (iI 0))]) [1, 0] rfl ?_
    refine z_ws (ws' := [((B 0), .inr (5, [.ref ((B 1)), .ref ((B 2)), .int (iI ((q0 : Int))), .ref ((B 3)), .int (iI ((q1 : Int))), .ref ((B 4)), .ref ((B 5)), .int (iI ((q2 : Int))), .int (iI ((q3 : Int))), .int (iI ((q4 : Int))), .ref ((B 6)), .ref ((B 7)), .int (iI ((q5 : Int))), .int (iI ((q6 : Int))), .ref ((B 8)), .ref ((B 9)), .ref ((B 10)), .ref ((B 11)), .ref ((B 12)), .int (iI ((q7 : Int)))])), cI G (B 2) 6188 (zsh H 0), cI G (B 4) 1547 Q]) [0, 1, 2] (by rw [zsh_0]; rfl) (by decide) ?_
    exact L10 4642 0 (by omega) (by omega)

theorem nyX5_putAside : yX5_putAside.cls ≠ "java/lang/invoke/MethodHandle" ∧ yX5_putAside.cls ≠ "java/lang/invoke/VarHandle" ∧ (parseMethodDescriptor yX5_putAside.desc).map (fun d => d.parameters.length) = some 0 := by decide +kernel
theorem nyX5_push : yX5_push.cls ≠ "java/lang/invoke/MethodHandle" ∧ yX5_push.cls ≠ "java/lang/invoke/VarHandle" ∧ (parseMethodDescriptor yX5_push.desc).map (fun d => d.parameters.length) = some 0 := by decide +kernel
set_option maxHeartbeats 4000000 in
set_option maxRecDepth 100000 in
theorem k_X5_record (l : Launch) (G : ZG) (B : Nat → Nat) (q0 q1 q2 q3 q4 q5 q6 q7 : Nat) (M H Q : Nat → Int) (u : List ZS) (s : ZS) (hq : q0 = u.length) (hl : u.length ≤ 4) (hI : ∀ s ∈ u, zIs s) (hH : zHs H u) (hs : zIs s) (hM : zMs M s) : Kt l G yX5_record wsX5_record { frames := 1, cells := 0, slots := 0, locals := 21 } 0 0 False [.ref ((B 0))] [((B 0), .inr (5, [.ref ((B 1)), .ref ((B 2)), .int (iI ((q0 : Int))), .ref ((B 3)), .int (iI ((q1 : Int))), .ref ((B 4)), .ref ((B 5)), .int (iI ((q2 : Int))), .int (iI ((q3 : Int))), .int (iI ((q4 : Int))), .ref ((B 6)), .ref ((B 7)), .int (iI ((q5 : Int))), .int (iI ((q6 : Int))), .ref ((B 8)), .ref ((B 9)), .ref ((B 10)), .ref ((B 11)), .ref ((B 12)), .int (iI ((q7 : Int)))])), cI G (B 1) 1547 M, cI G (B 2) 6188 H, cI G (B 4) 1547 Q] (fun v9 w9 => ∃ (H9 : Nat → Int), (zHs H9 (zpush u s)) ∧ v9 = none ∧ w9 = [((B 0), .inr (5, [.ref ((B 1)), .ref ((B 2)), .int (iI ((((zpush u s).length : Nat) : Int))), .ref ((B 3)), .int (iI ((q1 : Int))), .ref ((B 4)), .ref ((B 5)), .int (iI ((q2 : Int))), .int (iI ((q3 : Int))), .int (iI ((q4 : Int))), .ref ((B 6)), .ref ((B 7)), .int (iI ((q5 : Int))), .int (iI ((q6 : Int))), .ref ((B 8)), .ref ((B 9)), .ref ((B 10)), .ref ((B 11)), .ref ((B 12)), .int (iI ((q7 : Int)))])), cI G (B 1) 1547 M, cI G (B 2) 6188 H9, cI G (B 4) 1547 M]) := by
  refine Kt.of (cc := cX5_record) (nL := 1) (ret := none) (own := RX5) rfl (by decide +kernel) rfl (Nat.le_of_ble_eq_true rfl) ?_
  intro X Y C R0 hin
  show Z l X G Y 1 0 0 0 [(0, .ref ((B 0)))] [] [((B 0), .inr (5, [.ref ((B 1)), .ref ((B 2)), .int (iI ((q0 : Int))), .ref ((B 3)), .int (iI ((q1 : Int))), .ref ((B 4)), .ref ((B 5)), .int (iI ((q2 : Int))), .int (iI ((q3 : Int))), .int (iI ((q4 : Int))), .ref ((B 6)), .ref ((B 7)), .int (iI ((q5 : Int))), .int (iI ((q6 : Int))), .ref ((B 8)), .ref ((B 9)), .ref ((B 10)), .ref ((B 11)), .ref ((B 12)), .int (iI ((q7 : Int)))])), cI G (B 1) 1547 M, cI G (B 2) 6188 H, cI G (B 4) 1547 Q]
  refine z_aload_n (pc := 0) C dX5_record_0 0 rfl ?_
  refine z_callV (As := []) (rest := []) (wc := [((B 0), .inr (5, [.ref ((B 1)), .ref ((B 2)), .int (iI ((q0 : Int))), .ref ((B 3)), .int (iI ((q1 : Int))), .ref ((B 4)), .ref ((B 5)), .int (iI ((q2 : Int))), .int (iI ((q3 : Int))), .int (iI ((q4 : Int))), .ref ((B 6)), .ref ((B 7)), .int (iI ((q5 : Int))), .int (iI ((q6 : Int))), .ref ((B 8)), .ref ((B 9)), .ref ((B 10)), .ref ((B 11)), .ref ((B 12)), .int (iI ((q7 : Int)))])), cI G (B 1) 1547 M, cI G (B 4) 1547 Q]) (wr := [cI G (B 2) 6188 H]) (fs := [.ref ((B 1)), .ref ((B 2)), .int (iI ((q0 : Int))), .ref ((B 3)), .int (iI ((q1 : Int))), .ref ((B 4)), .ref ((B 5)), .int (iI ((q2 : Int))), .int (iI ((q3 : Int))), .int (iI ((q4 : Int))), .ref ((B 6)), .ref ((B 7)), .int (iI ((q5 : Int))), .int (iI ((q6 : Int))), .ref ((B 8)), .ref ((B 9)), .ref ((B 10)), .ref ((B 11)), .ref ((B 12)), .int (iI ((q7 : Int)))]) (pc := 1) C dX5_record_1 (k_X5_putAside l G B q0 q1 q2 q3 q4 q5 q6 q7 M Q ) gX5_record_X5_putAside ⟨⟨_, rfl⟩, ⟨rfl, rfl⟩, nyX5_putAside, ⟨Nat.le_of_ble_eq_true rfl, Nat.le_of_ble_eq_true rfl⟩⟩ rfl zCl5 rfl (fun h => h) rfl (Nat.le_of_ble_eq_true rfl) [0, 1, 3] [2] rfl rfl (by decide) (by decide) (by decide) ⟨Nat.le_of_ble_eq_true rfl, Nat.le_of_ble_eq_true rfl⟩ (fun v w hk => ?_)
  obtain ⟨rfl, rfl⟩ := hk
  refine z_fix (pc2 := 4) (st2 := []) (ws' := [((B 0), .inr (5, [.ref ((B 1)), .ref ((B 2)), .int (iI ((q0 : Int))), .ref ((B 3)), .int (iI ((q1 : Int))), .ref ((B 4)), .ref ((B 5)), .int (iI ((q2 : Int))), .int (iI ((q3 : Int))), .int (iI ((q4 : Int))), .ref ((B 6)), .ref ((B 7)), .int (iI ((q5 : Int))), .int (iI ((q6 : Int))), .ref ((B 8)), .ref ((B 9)), .ref ((B 10)), .ref ((B 11)), .ref ((B 12)), .int (iI ((q7 : Int)))])), cI G (B 1) 1547 M, cI G (B 2) 6188 H, cI G (B 4) 1547 M]) [1, 2, 0, 3] rfl rfl rfl (by decide) ?_
  refine z_aload_n (pc := 4) C dX5_record_4 0 rfl ?_
  refine z_callV (As := []) (rest := []) (wc := [((B 0), .inr (5, [.ref ((B 1)), .ref ((B 2)), .int (iI ((q0 : Int))), .ref ((B 3)), .int (iI ((q1 : Int))), .ref ((B 4)), .ref ((B 5)), .int (iI ((q2 : Int))), .int (iI ((q3 : Int))), .int (iI ((q4 : Int))), .ref ((B 6)), .ref ((B 7)), .int (iI ((q5 : Int))), .int (iI ((q6 : Int))), .ref ((B 8)), .ref ((B 9)), .ref ((B 10)), .ref ((B 11)), .ref ((B 12)), .int (iI ((q7 : Int)))])), cI G (B 2) 6188 H, cI G (B 4) 1547 M]) (wr := [cI G (B 1) 1547 M]) (fs := [.ref ((B 1)), .ref ((B 2)), .int (iI ((q0 : Int))), .ref ((B 3)), .int (iI ((q1 : Int))), .ref ((B 4)), .ref ((B 5)), .int (iI ((q2 : Int))), .int (iI ((q3 : Int))), .int (iI ((q4 : Int))), .ref ((B 6)), .ref ((B 7)), .int (iI ((q5 : Int))), .int (iI ((q6 : Int))), .ref ((B 8)), .ref ((B 9)), .ref ((B 10)), .ref ((B 11)), .ref ((B 12)), .int (iI ((q7 : Int)))]) (pc := 5) C dX5_record_5 (k_X5_push l G B q0 q1 q2 q3 q4 q5 q6 q7 H M u s hq hl hI hH hs hM) gX5_record_X5_push ⟨⟨_, rfl⟩, ⟨rfl, rfl⟩, nyX5_push, ⟨Nat.le_of_ble_eq_true rfl, Nat.le_of_ble_eq_true rfl⟩⟩ rfl zCl5 rfl (fun h => h) rfl (Nat.le_of_ble_eq_true rfl) [0, 2, 3] [1] rfl rfl (by decide) (by decide) (by decide) ⟨Nat.le_of_ble_eq_true rfl, Nat.le_of_ble_eq_true rfl⟩ (fun v w hk => ?_)
  obtain ⟨H9_5, h5_0, rfl, rfl⟩ := hk
  refine z_fix (pc2 := 8) (st2 := []) (ws' := [((B 0), .inr (5, [.ref ((B 1)), .ref ((B 2)), .int (iI ((((zpush u s).length : Nat) : Int))), .ref ((B 3)), .int (iI ((q1 : Int))), .ref ((B 4)), .ref ((B 5)), .int (iI ((q2 : Int))), .int (iI ((q3 : Int))), .int (iI ((q4 : Int))), .ref ((B 6)), .ref ((B 7)), .int (iI ((q5 : Int))), .int (iI ((q6 : Int))), .ref ((B 8)), .ref ((B 9)), .ref ((B 10)), .ref ((B 11)), .ref ((B 12)), .int (iI ((q7 : Int)))])), cI G (B 1) 1547 M, cI G (B 2) 6188 H9_5, cI G (B 4) 1547 M]) [1, 0, 2, 3] rfl rfl rfl (by decide) ?_
  exact z_vret (pc := 8) C R0 dX5_record_8 (⟨_, h5_0, rfl, rfl⟩)

set_option maxHeartbeats 4000000 in
set_option maxRecDepth 100000 in
theorem k_X5_ones (l : Launch) (G : ZG)  (w : Nat) (hw : w ≤ 255) : Kt l G yX5_ones wsX5_ones { frames := 0, cells := 0, slots := 0, locals := 0 } 0 0 False [.int (iI ((w : Int)))] [] (fun v9 w9 => v9 = some (.int (iI ((((zon w 8) : Nat) : Int)))) ∧ w9 = []) := by
  refine Kt.of (cc := cX5_ones) (nL := 3) (ret := (some .int)) (own := RX5) rfl (by decide +kernel) rfl (Nat.le_of_ble_eq_true rfl) ?_
  intro X Y C R0 hin
  show Z l X G Y 3 0 0 0 [(0, .int (iI ((w : Int))))] [] []
  refine z_iconst (pc := 0) C dX5_ones_0 ?_
  refine z_istore_n (lv' := [(1, .int (iI 0)), (0, .int (iI ((w : Int))))]) (pc := 1) C dX5_ones_1 (by decide) rfl ?_
  refine z_iconst (pc := 2) C dX5_ones_2 ?_
  refine z_istore_n (lv' := [(2, .int (iI 0)), (1, .int (iI 0)), (0, .int (iI ((w : Int))))]) (pc := 3) C dX5_ones_3 (by decide) rfl ?_
  have L4 : ∀ (n : Nat) (i : Nat), 8 < i + n → i ≤ 8 → Z l X G Y 3 0 0 4 [(0, .int (iI ((w : Int)))), (1, .int (iI ((((zon w i) : Nat) : Int)))), (2, .int (iI ((i : Int))))] [] [] := by
    intro n
    induction n with
    | zero => intro i hn hi; exact absurd hn (by omega)
    | succ n ih =>
      intro i hn hi
      refine z_iload_n (pc := 4) C dX5_ones_4 2 rfl ?_
      refine z_bipush (pc := 5) C dX5_ones_5 (by decide +kernel) ?_
      refine z_icmp_ge (tgt := 24) (pc := 7) C dX5_ones_7 (by decide) ⟨by omega, by omega⟩ (by decide) (fun c7 => ?_) (fun c7 => ?_)
      · obtain rfl : i = 8 := by omega
        refine z_iload_n (pc := 24) C dX5_ones_24 1 rfl ?_
        exact z_iret (pc := 25) C R0 dX5_ones_25 (⟨rfl, rfl⟩)
      · refine z_iload_n (pc := 10) C dX5_ones_10 1 rfl ?_
        refine z_iload_n (pc := 11) C dX5_ones_11 0 rfl ?_
        refine z_iload_n (pc := 12) C dX5_ones_12 2 rfl ?_
        refine z_ishr (pc := 13) C dX5_ones_13 ⟨by omega, by omega⟩ ⟨by omega, by omega⟩ ?_
        refine z_topi (y := (((w / 2 ^ i) : Nat) : Int)) (by rw [Int.toNat_natCast]; exact (zdiv_pow w i).symm ▸ rfl) ?_
        refine z_iconst (pc := 14) C dX5_ones_14 ?_
        have hdv : w / 2 ^ i ≤ w := Nat.div_le_self _ _
        refine z_iand (pc := 15) C dX5_ones_15 ⟨Int.natCast_nonneg _, Int.le_trans (Int.ofNat_le.mpr hdv) (by omega)⟩ (by decide) ?_
        refine z_topi (y := (((w / 2 ^ i % 2) : Nat) : Int)) (by rw [zand1 (Int.natCast_nonneg _)]; exact (Int.natCast_emod _ _).symm) ?_
        refine z_iadd (pc := 16) C dX5_ones_16 ?_
        refine z_istore_n (lv' := [(1, .int (iI (((((zon w i) : Nat) : Int) + (((w / 2 ^ i % 2) : Nat) : Int))))), (0, .int (iI ((w : Int)))), (2, .int (iI ((i : Int))))]) (pc := 17) C dX5_ones_17 (by decide) rfl ?_
        refine z_iinc (lv' := [(2, .int (iI (((i : Int) + 1)))), (1, .int (iI (((((zon w i) : Nat) : Int) + (((w / 2 ^ i % 2) : Nat) : Int))))), (0, .int (iI ((w : Int))))]) (pc := 18) C dX5_ones_18 2 rfl (by decide) rfl ?_
        refine z_goto (tgt := 4) (pc := 21) C dX5_ones_21 (by decide) ?_
        refine z_lv (lv' := [(0, .int (iI ((w : Int)))), (1, .int (iI (((((zon w i) : Nat) : Int) + (((w / 2 ^ i % 2) : Nat) : Int))))), (2, .int (iI (((i : Int) + 1))))]) [2, 1, 0] rfl ?_
        exact ih (i + 1) (by omega) (by omega)
  refine z_lv (lv' := [(0, .int (iI ((w : Int)))), (1, .int (iI 0)), (2, .int (iI 0))]) [2, 1, 0] rfl ?_
  exact L4 9 0 (by omega) (by omega)

theorem nyX5_ones : yX5_ones.cls ≠ "java/lang/invoke/MethodHandle" ∧ yX5_ones.cls ≠ "java/lang/invoke/VarHandle" ∧ (parseMethodDescriptor yX5_ones.desc).map (fun d => d.parameters.length) = some 1 := by decide +kernel
theorem ffX5_parityOf_7 : zFF wsX5_parityOf RX5 7 RX5 TX5 20 0 := ⟨by decide +kernel, by decide, by decide +kernel⟩
set_option maxHeartbeats 4000000 in
set_option maxRecDepth 100000 in
theorem k_X5_parityOf (l : Launch) (G : ZG) (B : Nat → Nat) (q0 q1 q2 q3 q4 q5 q6 q7 : Nat) (M : Nat → Int) (w : Nat) (s : ZS) (hs : zIs s) (hM : zMs M s) (hw : w ≤ 255) : Kt l G yX5_parityOf wsX5_parityOf { frames := 1, cells := 0, slots := 0, locals := 22 } 0 0 False [.ref ((B 0)), .int (iI ((w : Int)))] [((B 0), .inr (5, [.ref ((B 1)), .ref ((B 2)), .int (iI ((q0 : Int))), .ref ((B 3)), .int (iI ((q1 : Int))), .ref ((B 4)), .ref ((B 5)), .int (iI ((q2 : Int))), .int (iI ((q3 : Int))), .int (iI ((q4 : Int))), .ref ((B 6)), .ref ((B 7)), .int (iI ((q5 : Int))), .int (iI ((q6 : Int))), .ref ((B 8)), .ref ((B 9)), .ref ((B 10)), .ref ((B 11)), .ref ((B 12)), .int (iI ((q7 : Int)))])), cI G (B 1) 1547 M] (fun v9 w9 => v9 = some (.int (iI ((zpar (s.2.2.1 2) w)))) ∧ w9 = [((B 0), .inr (5, [.ref ((B 1)), .ref ((B 2)), .int (iI ((q0 : Int))), .ref ((B 3)), .int (iI ((q1 : Int))), .ref ((B 4)), .ref ((B 5)), .int (iI ((q2 : Int))), .int (iI ((q3 : Int))), .int (iI ((q4 : Int))), .ref ((B 6)), .ref ((B 7)), .int (iI ((q5 : Int))), .int (iI ((q6 : Int))), .ref ((B 8)), .ref ((B 9)), .ref ((B 10)), .ref ((B 11)), .ref ((B 12)), .int (iI ((q7 : Int)))])), cI G (B 1) 1547 M]) := by
  refine Kt.of (cc := cX5_parityOf) (nL := 3) (ret := (some .int)) (own := RX5) rfl (by decide +kernel) rfl (Nat.le_of_ble_eq_true rfl) ?_
  intro X Y C R0 hin
  show Z l X G Y 3 0 0 0 [(0, .ref ((B 0))), (1, .int (iI ((w : Int))))] [] [((B 0), .inr (5, [.ref ((B 1)), .ref ((B 2)), .int (iI ((q0 : Int))), .ref ((B 3)), .int (iI ((q1 : Int))), .ref ((B 4)), .ref ((B 5)), .int (iI ((q2 : Int))), .int (iI ((q3 : Int))), .int (iI ((q4 : Int))), .ref ((B 6)), .ref ((B 7)), .int (iI ((q5 : Int))), .int (iI ((q6 : Int))), .ref ((B 8)), .ref ((B 9)), .ref ((B 10)), .ref ((B 11)), .ref ((B 12)), .int (iI ((q7 : Int)))])), cI G (B 1) 1547 M]
  obtain ⟨m0, m1, m2, m3, m4, m5, m6, he, hk⟩ := zMs_r hs hM
  refine z_iload_n (pc := 0) C dX5_parityOf_0 1 rfl ?_
  refine z_callS (As := [.int (iI ((w : Int)))]) (rest := []) (wc := []) (wr := [((B 0), .inr (5, [.ref ((B 1)), .ref ((B 2)), .int (iI ((q0 : Int))), .ref ((B 3)), .int (iI ((q1 : Int))), .ref ((B 4)), .ref ((B 5)), .int (iI ((q2 : Int))), .int (iI ((q3 : Int))), .int (iI ((q4 : Int))), .ref ((B 6)), .ref ((B 7)), .int (iI ((q5 : Int))), .int (iI ((q6 : Int))), .ref ((B 8)), .ref ((B 9)), .ref ((B 10)), .ref ((B 11)), .ref ((B 12)), .int (iI ((q7 : Int)))])), cI G (B 1) 1547 M]) (pc := 1) C dX5_parityOf_1 (k_X5_ones l G w hw) gX5_parityOf_X5_ones ⟨⟨_, rfl⟩, ⟨rfl, rfl⟩, nyX5_ones, ⟨Nat.le_of_ble_eq_true rfl, Nat.le_of_ble_eq_true rfl⟩⟩ (fun h => h) rfl (Nat.le_of_ble_eq_true rfl) [] [0, 1] rfl rfl (by decide) (by decide) (by decide) ⟨Nat.le_of_ble_eq_true rfl, Nat.le_of_ble_eq_true rfl⟩ (fun v w hk => ?_)
  obtain ⟨rfl, rfl⟩ := hk
  refine z_fix (pc2 := 4) (st2 := [.int (iI ((((zon w 8) : Nat) : Int)))]) (ws' := [((B 0), .inr (5, [.ref ((B 1)), .ref ((B 2)), .int (iI ((q0 : Int))), .ref ((B 3)), .int (iI ((q1 : Int))), .ref ((B 4)), .ref ((B 5)), .int (iI ((q2 : Int))), .int (iI ((q3 : Int))), .int (iI ((q4 : Int))), .ref ((B 6)), .ref ((B 7)), .int (iI ((q5 : Int))), .int (iI ((q6 : Int))), .ref ((B 8)), .ref ((B 9)), .ref ((B 10)), .ref ((B 11)), .ref ((B 12)), .int (iI ((q7 : Int)))])), cI G (B 1) 1547 M]) [0, 1] rfl rfl rfl (by decide) ?_
  refine z_iconst (pc := 4) C dX5_parityOf_4 ?_
  have hz8 := zon_b w 8
  refine z_irem (pc := 5) C dX5_parityOf_5 ⟨by omega, by omega⟩ (by decide) ?_
  refine z_istore_n (lv' := [(2, .int (iI (((((zon w 8) : Nat) : Int) % 2)))), (0, .ref ((B 0))), (1, .int (iI ((w : Int))))]) (pc := 6) C dX5_parityOf_6 (by decide) rfl ?_
  refine z_aload_n (pc := 7) C dX5_parityOf_7 1 rfl ?_
  refine z_get (pc := 8) C dX5_parityOf_8 zCl5 ffX5_parityOf_7 0 rfl rfl ?_
  refine z_iconst (pc := 11) C dX5_parityOf_11 ?_
  refine z_iald (pc := 12) C dX5_parityOf_12 1 rfl (2) (rfl) (by omega) (by decide) ?_
  refine z_iconst (pc := 13) C dX5_parityOf_13 ?_
  refine z_icmp_ne (tgt := 21) (pc := 14) C dX5_parityOf_14 (by decide) ⟨by omega, by omega⟩ (by decide) (fun c14 => ?_) (fun c14 => ?_)
  · refine z_iconst (pc := 21) C dX5_parityOf_21 ?_
    refine z_iload_n (pc := 22) C dX5_parityOf_22 0 rfl ?_
    refine z_isub (pc := 23) C dX5_parityOf_23 ?_
    refine z_topi (y := (zpar (s.2.2.1 2) w)) (by unfold zpar; rw [if_neg (by omega)]; omega) ?_
    exact z_iret (pc := 24) C R0 dX5_parityOf_24 (⟨rfl, rfl⟩)
  · refine z_iload_n (pc := 17) C dX5_parityOf_17 0 rfl ?_
    refine z_goto (tgt := 24) (pc := 18) C dX5_parityOf_18 (by decide) ?_
    refine z_topi (y := (zpar (s.2.2.1 2) w)) (by unfold zpar; rw [if_pos (by omega)]; omega) ?_
    exact z_iret (pc := 24) C R0 dX5_parityOf_24 (⟨rfl, rfl⟩)

theorem ffX5_bitsOf_7 : zFF wsX5_bitsOf RX5 7 RX5 TX5 20 0 := ⟨by decide +kernel, by decide, by decide +kernel⟩
theorem nyX5_parityOf : yX5_parityOf.cls ≠ "java/lang/invoke/MethodHandle" ∧ yX5_parityOf.cls ≠ "java/lang/invoke/VarHandle" ∧ (parseMethodDescriptor yX5_parityOf.desc).map (fun d => d.parameters.length) = some 1 := by decide +kernel
set_option maxHeartbeats 4000000 in
set_option maxRecDepth 100000 in
theorem k_X5_bitsOf (l : Launch) (G : ZG) (B : Nat → Nat) (q0 q1 q2 q3 q4 q5 q6 q7 : Nat) (M : Nat → Int) (w : Nat) (s : ZS) (hs : zIs s) (hM : zMs M s) (hw : w ≤ 255) : Kt l G yX5_bitsOf wsX5_bitsOf { frames := 2, cells := 0, slots := 0, locals := 44 } 0 0 False [.ref ((B 0)), .int (iI ((w : Int)))] [((B 0), .inr (5, [.ref ((B 1)), .ref ((B 2)), .int (iI ((q0 : Int))), .ref ((B 3)), .int (iI ((q1 : Int))), .ref ((B 4)), .ref ((B 5)), .int (iI ((q2 : Int))), .int (iI ((q3 : Int))), .int (iI ((q4 : Int))), .ref ((B 6)), .ref ((B 7)), .int (iI ((q5 : Int))), .int (iI ((q6 : Int))), .ref ((B 8)), .ref ((B 9)), .ref ((B 10)), .ref ((B 11)), .ref ((B 12)), .int (iI ((q7 : Int)))])), cI G (B 1) 1547 M] (fun v9 w9 => v9 = some (.int (iI ((zbits s.2.2.1 w)))) ∧ w9 = [((B 0), .inr (5, [.ref ((B 1)), .ref ((B 2)), .int (iI ((q0 : Int))), .ref ((B 3)), .int (iI ((q1 : Int))), .ref ((B 4)), .ref ((B 5)), .int (iI ((q2 : Int))), .int (iI ((q3 : Int))), .int (iI ((q4 : Int))), .ref ((B 6)), .ref ((B 7)), .int (iI ((q5 : Int))), .int (iI ((q6 : Int))), .ref ((B 8)), .ref ((B 9)), .ref ((B 10)), .ref ((B 11)), .ref ((B 12)), .int (iI ((q7 : Int)))])), cI G (B 1) 1547 M]) := by
  refine Kt.of (cc := cX5_bitsOf) (nL := 4) (ret := (some .int)) (own := RX5) rfl (by decide +kernel) rfl (Nat.le_of_ble_eq_true rfl) ?_
  intro X Y C R0 hin
  show Z l X G Y 4 0 0 0 [(0, .ref ((B 0))), (1, .int (iI ((w : Int))))] [] [((B 0), .inr (5, [.ref ((B 1)), .ref ((B 2)), .int (iI ((q0 : Int))), .ref ((B 3)), .int (iI ((q1 : Int))), .ref ((B 4)), .ref ((B 5)), .int (iI ((q2 : Int))), .int (iI ((q3 : Int))), .int (iI ((q4 : Int))), .ref ((B 6)), .ref ((B 7)), .int (iI ((q5 : Int))), .int (iI ((q6 : Int))), .ref ((B 8)), .ref ((B 9)), .ref ((B 10)), .ref ((B 11)), .ref ((B 12)), .int (iI ((q7 : Int)))])), cI G (B 1) 1547 M]
  obtain ⟨m0, m1, m2, m3, m4, m5, m6, he, hk⟩ := zMs_r hs hM
  refine z_iload_n (pc := 0) C dX5_bitsOf_0 1 rfl ?_
  refine z_iconst (pc := 1) C dX5_bitsOf_1 ?_
  refine z_ishl (pc := 2) C dX5_bitsOf_2 (by omega) (by decide) (show (w : Int) * 2 ≤ 2147483647 by omega) ?_
  refine z_topi (y := (((2 * w) : Nat) : Int)) (show (w : Int) * 2 = _ by omega) ?_
  refine z_istore_n (lv' := [(2, .int (iI ((((2 * w) : Nat) : Int)))), (0, .ref ((B 0))), (1, .int (iI ((w : Int))))]) (pc := 3) C dX5_bitsOf_3 (by decide) rfl ?_
  refine z_bipush (pc := 4) C dX5_bitsOf_4 (by decide +kernel) ?_
  refine z_istore_n (lv' := [(3, .int (iI 9)), (2, .int (iI ((((2 * w) : Nat) : Int)))), (0, .ref ((B 0))), (1, .int (iI ((w : Int))))]) (pc := 6) C dX5_bitsOf_6 (by decide) rfl ?_
  refine z_aload_n (pc := 7) C dX5_bitsOf_7 2 rfl ?_
  refine z_get (pc := 8) C dX5_bitsOf_8 zCl5 ffX5_bitsOf_7 0 rfl rfl ?_
  refine z_iconst (pc := 11) C dX5_bitsOf_11 ?_
  refine z_iald (pc := 12) C dX5_bitsOf_12 1 rfl (2) (rfl) (by omega) (by decide) ?_
  refine z_if_le (tgt := 30) (pc := 13) C dX5_bitsOf_13 (by decide) ⟨by omega, by omega⟩ (fun c13 => ?_) (fun c13 => ?_)
  · refine z_iload_n (pc := 30) C dX5_bitsOf_30 1 rfl ?_
    refine z_iconst (pc := 31) C dX5_bitsOf_31 ?_
    refine z_iload_n (pc := 32) C dX5_bitsOf_32 0 rfl ?_
    refine z_ishl (pc := 33) C dX5_bitsOf_33 (by decide) (by decide) (by decide) ?_
    refine z_ior (pc := 34) C dX5_bitsOf_34 ⟨by omega, by omega⟩ (by decide) ?_
    refine z_topi (y := (zbits s.2.2.1 w)) (by rw [show (3 : Int) * 2 ^ (9 : Int).toNat = 3 * 2 ^ 9 from rfl, zor_add 9 (by omega) (by omega) (by omega)]; unfold zbits; rw [if_pos (by omega)]; omega) ?_
    exact z_iret (pc := 35) C R0 dX5_bitsOf_35 (⟨rfl, rfl⟩)
  · refine z_iload_n (pc := 16) C dX5_bitsOf_16 1 rfl ?_
    refine z_aload_n (pc := 17) C dX5_bitsOf_17 2 rfl ?_
    refine z_iload_n (pc := 18) C dX5_bitsOf_18 3 rfl ?_
    refine z_callV (As := [.int (iI ((w : Int)))]) (rest := [.int (iI ((((2 * w) : Nat) : Int)))]) (wc := [((B 0), .inr (5, [.ref ((B 1)), .ref ((B 2)), .int (iI ((q0 : Int))), .ref ((B 3)), .int (iI ((q1 : Int))), .ref ((B 4)), .ref ((B 5)), .int (iI ((q2 : Int))), .int (iI ((q3 : Int))), .int (iI ((q4 : Int))), .ref ((B 6)), .ref ((B 7)), .int (iI ((q5 : Int))), .int (iI ((q6 : Int))), .ref ((B 8)), .ref ((B 9)), .ref ((B 10)), .ref ((B 11)), .ref ((B 12)), .int (iI ((q7 : Int)))])), cI G (B 1) 1547 M]) (wr := []) (fs := [.ref ((B 1)), .ref ((B 2)), .int (iI ((q0 : Int))), .ref ((B 3)), .int (iI ((q1 : Int))), .ref ((B 4)), .ref ((B 5)), .int (iI ((q2 : Int))), .int (iI ((q3 : Int))), .int (iI ((q4 : Int))), .ref ((B 6)), .ref ((B 7)), .int (iI ((q5 : Int))), .int (iI ((q6 : Int))), .ref ((B 8)), .ref ((B 9)), .ref ((B 10)), .ref ((B 11)), .ref ((B 12)), .int (iI ((q7 : Int)))]) (pc := 19) C dX5_bitsOf_19 (k_X5_parityOf l G B q0 q1 q2 q3 q4 q5 q6 q7 M w s hs hM hw) gX5_bitsOf_X5_parityOf ⟨⟨_, rfl⟩, ⟨rfl, rfl⟩, nyX5_parityOf, ⟨Nat.le_of_ble_eq_true rfl, Nat.le_of_ble_eq_true rfl⟩⟩ rfl zCl5 rfl (fun h => h) rfl (Nat.le_of_ble_eq_true rfl) [0, 1] [] rfl rfl (by decide) (by decide) (by decide) ⟨Nat.le_of_ble_eq_true rfl, Nat.le_of_ble_eq_true rfl⟩ (fun v w hk => ?_)
    obtain ⟨rfl, rfl⟩ := hk
    refine z_fix (pc2 := 22) (st2 := [.int (iI ((zpar (s.2.2.1 2) w))), .int (iI ((((2 * w) : Nat) : Int)))]) (ws' := [((B 0), .inr (5, [.ref ((B 1)), .ref ((B 2)), .int (iI ((q0 : Int))), .ref ((B 3)), .int (iI ((q1 : Int))), .ref ((B 4)), .ref ((B 5)), .int (iI ((q2 : Int))), .int (iI ((q3 : Int))), .int (iI ((q4 : Int))), .ref ((B 6)), .ref ((B 7)), .int (iI ((q5 : Int))), .int (iI ((q6 : Int))), .ref ((B 8)), .ref ((B 9)), .ref ((B 10)), .ref ((B 11)), .ref ((B 12)), .int (iI ((q7 : Int)))])), cI G (B 1) 1547 M]) [0, 1] rfl rfl rfl (by decide) ?_
    have hp := zpar_b (s.2.2.1 2) w
    refine z_bipush (pc := 22) C dX5_bitsOf_22 (by decide +kernel) ?_
    refine z_ishl (pc := 24) C dX5_bitsOf_24 hp.1 (by decide) (show zpar (s.2.2.1 2) w * 512 ≤ 2147483647 by omega) ?_
    refine z_topi (y := (zpar (s.2.2.1 2) w * 512)) (rfl) ?_
    refine z_ior (pc := 25) C dX5_bitsOf_25 ⟨by omega, by omega⟩ ⟨by omega, by omega⟩ ?_
    refine z_topi (y := (2 * (w : Int) + zpar (s.2.2.1 2) w * 512)) (zor_add (a := ((2 * w : Nat) : Int)) (c := zpar (s.2.2.1 2) w) 9 (by omega) (by omega) (by omega)) ?_
    refine z_istore_n (lv' := [(2, .int (iI ((2 * (w : Int) + zpar (s.2.2.1 2) w * 512)))), (3, .int (iI 9)), (0, .ref ((B 0))), (1, .int (iI ((w : Int))))]) (pc := 26) C dX5_bitsOf_26 (by decide) rfl ?_
    refine z_bipush (pc := 27) C dX5_bitsOf_27 (by decide +kernel) ?_
    refine z_istore_n (lv' := [(3, .int (iI 10)), (2, .int (iI ((2 * (w : Int) + zpar (s.2.2.1 2) w * 512)))), (0, .ref ((B 0))), (1, .int (iI ((w : Int))))]) (pc := 29) C dX5_bitsOf_29 (by decide) rfl ?_
    refine z_iload_n (pc := 30) C dX5_bitsOf_30 1 rfl ?_
    refine z_iconst (pc := 31) C dX5_bitsOf_31 ?_
    refine z_iload_n (pc := 32) C dX5_bitsOf_32 0 rfl ?_
    refine z_ishl (pc := 33) C dX5_bitsOf_33 (by decide) (by decide) (by decide) ?_
    refine z_ior (pc := 34) C dX5_bitsOf_34 ⟨by omega, by omega⟩ (by decide) ?_
    refine z_topi (y := (zbits s.2.2.1 w)) (by rw [show (3 : Int) * 2 ^ (10 : Int).toNat = 3 * 2 ^ 10 from rfl, zor_add 10 (by omega) (by omega) (by omega)]; unfold zbits; rw [if_neg (by omega)]; omega) ?_
    exact z_iret (pc := 35) C R0 dX5_bitsOf_35 (⟨rfl, rfl⟩)

theorem ffX5_bitMany_7 : zFF wsX5_bitMany RX5 7 RX5 TX5 20 0 := ⟨by decide +kernel, by decide, by decide +kernel⟩
set_option maxHeartbeats 4000000 in
set_option maxRecDepth 100000 in
theorem k_X5_bitMany (l : Launch) (G : ZG) (B : Nat → Nat) (q0 q1 q2 q3 q4 q5 q6 q7 : Nat) (M : Nat → Int) (s : ZS) (hs : zIs s) (hM : zMs M s) : Kt l G yX5_bitMany wsX5_bitMany { frames := 0, cells := 0, slots := 0, locals := 0 } 0 0 False [.ref ((B 0))] [((B 0), .inr (5, [.ref ((B 1)), .ref ((B 2)), .int (iI ((q0 : Int))), .ref ((B 3)), .int (iI ((q1 : Int))), .ref ((B 4)), .ref ((B 5)), .int (iI ((q2 : Int))), .int (iI ((q3 : Int))), .int (iI ((q4 : Int))), .ref ((B 6)), .ref ((B 7)), .int (iI ((q5 : Int))), .int (iI ((q6 : Int))), .ref ((B 8)), .ref ((B 9)), .ref ((B 10)), .ref ((B 11)), .ref ((B 12)), .int (iI ((q7 : Int)))])), cI G (B 1) 1547 M] (fun v9 w9 => v9 = some (.int (iI ((zbn s.2.2.1)))) ∧ w9 = [((B 0), .inr (5, [.ref ((B 1)), .ref ((B 2)), .int (iI ((q0 : Int))), .ref ((B 3)), .int (iI ((q1 : Int))), .ref ((B 4)), .ref ((B 5)), .int (iI ((q2 : Int))), .int (iI ((q3 : Int))), .int (iI ((q4 : Int))), .ref ((B 6)), .ref ((B 7)), .int (iI ((q5 : Int))), .int (iI ((q6 : Int))), .ref ((B 8)), .ref ((B 9)), .ref ((B 10)), .ref ((B 11)), .ref ((B 12)), .int (iI ((q7 : Int)))])), cI G (B 1) 1547 M]) := by
  refine Kt.of (cc := cX5_bitMany) (nL := 1) (ret := (some .int)) (own := RX5) rfl (by decide +kernel) rfl (Nat.le_of_ble_eq_true rfl) ?_
  intro X Y C R0 hin
  show Z l X G Y 1 0 0 0 [(0, .ref ((B 0)))] [] [((B 0), .inr (5, [.ref ((B 1)), .ref ((B 2)), .int (iI ((q0 : Int))), .ref ((B 3)), .int (iI ((q1 : Int))), .ref ((B 4)), .ref ((B 5)), .int (iI ((q2 : Int))), .int (iI ((q3 : Int))), .int (iI ((q4 : Int))), .ref ((B 6)), .ref ((B 7)), .int (iI ((q5 : Int))), .int (iI ((q6 : Int))), .ref ((B 8)), .ref ((B 9)), .ref ((B 10)), .ref ((B 11)), .ref ((B 12)), .int (iI ((q7 : Int)))])), cI G (B 1) 1547 M]
  obtain ⟨m0, m1, m2, m3, m4, m5, m6, he, hk⟩ := zMs_r hs hM
  refine z_bipush (pc := 0) C dX5_bitMany_0 (by decide +kernel) ?_
  refine z_aload_n (pc := 2) C dX5_bitMany_2 0 rfl ?_
  refine z_get (pc := 3) C dX5_bitMany_3 zCl5 ffX5_bitMany_7 0 rfl rfl ?_
  refine z_iconst (pc := 6) C dX5_bitMany_6 ?_
  refine z_iald (pc := 7) C dX5_bitMany_7 1 rfl (2) (rfl) (by omega) (by decide) ?_
  refine z_if_le (tgt := 15) (pc := 8) C dX5_bitMany_8 (by decide) ⟨by omega, by omega⟩ (fun c8 => ?_) (fun c8 => ?_)
  · refine z_iconst (pc := 15) C dX5_bitMany_15 ?_
    refine z_iadd (pc := 16) C dX5_bitMany_16 ?_
    refine z_aload_n (pc := 17) C dX5_bitMany_17 0 rfl ?_
    refine z_get (pc := 18) C dX5_bitMany_18 zCl5 ffX5_bitMany_7 0 rfl rfl ?_
    refine z_iconst (pc := 21) C dX5_bitMany_21 ?_
    refine z_iald (pc := 22) C dX5_bitMany_22 1 rfl (3) (rfl) (by omega) (by decide) ?_
    refine z_iadd (pc := 23) C dX5_bitMany_23 ?_
    refine z_topi (y := (zbn s.2.2.1)) (by unfold zbn; rw [if_pos (by omega)]; omega) ?_
    exact z_iret (pc := 24) C R0 dX5_bitMany_24 (⟨rfl, rfl⟩)
  · refine z_iconst (pc := 11) C dX5_bitMany_11 ?_
    refine z_goto (tgt := 16) (pc := 12) C dX5_bitMany_12 (by decide) ?_
    refine z_iadd (pc := 16) C dX5_bitMany_16 ?_
    refine z_aload_n (pc := 17) C dX5_bitMany_17 0 rfl ?_
    refine z_get (pc := 18) C dX5_bitMany_18 zCl5 ffX5_bitMany_7 0 rfl rfl ?_
    refine z_iconst (pc := 21) C dX5_bitMany_21 ?_
    refine z_iald (pc := 22) C dX5_bitMany_22 1 rfl (3) (rfl) (by omega) (by decide) ?_
    refine z_iadd (pc := 23) C dX5_bitMany_23 ?_
    refine z_topi (y := (zbn s.2.2.1)) (by unfold zbn; rw [if_neg (by omega)]; omega) ?_
    exact z_iret (pc := 24) C R0 dX5_bitMany_24 (⟨rfl, rfl⟩)

theorem ffX5_lengthOf_7 : zFF wsX5_lengthOf RX5 7 RX5 TX5 20 0 := ⟨by decide +kernel, by decide, by decide +kernel⟩
set_option maxHeartbeats 4000000 in
set_option maxRecDepth 100000 in
theorem k_X5_lengthOf (l : Launch) (G : ZG) (B : Nat → Nat) (q0 q1 q2 q3 q4 q5 q6 q7 : Nat) (M : Nat → Int) (z : Int) (x : Int) (hx : M 0 = x) (hx2 : 64 ≤ x ∧ x ≤ 640) (hz : 0 ≤ z ∧ z ≤ 12) : Kt l G yX5_lengthOf wsX5_lengthOf { frames := 0, cells := 0, slots := 0, locals := 0 } 0 0 False [.ref ((B 0)), .int (iI z)] [((B 0), .inr (5, [.ref ((B 1)), .ref ((B 2)), .int (iI ((q0 : Int))), .ref ((B 3)), .int (iI ((q1 : Int))), .ref ((B 4)), .ref ((B 5)), .int (iI ((q2 : Int))), .int (iI ((q3 : Int))), .int (iI ((q4 : Int))), .ref ((B 6)), .ref ((B 7)), .int (iI ((q5 : Int))), .int (iI ((q6 : Int))), .ref ((B 8)), .ref ((B 9)), .ref ((B 10)), .ref ((B 11)), .ref ((B 12)), .int (iI ((q7 : Int)))])), cI G (B 1) 1547 M] (fun v9 w9 => v9 = some (.int (iI ((z * x / 16)))) ∧ w9 = [((B 0), .inr (5, [.ref ((B 1)), .ref ((B 2)), .int (iI ((q0 : Int))), .ref ((B 3)), .int (iI ((q1 : Int))), .ref ((B 4)), .ref ((B 5)), .int (iI ((q2 : Int))), .int (iI ((q3 : Int))), .int (iI ((q4 : Int))), .ref ((B 6)), .ref ((B 7)), .int (iI ((q5 : Int))), .int (iI ((q6 : Int))), .ref ((B 8)), .ref ((B 9)), .ref ((B 10)), .ref ((B 11)), .ref ((B 12)), .int (iI ((q7 : Int)))])), cI G (B 1) 1547 M]) := by
  refine Kt.of (cc := cX5_lengthOf) (nL := 2) (ret := (some .int)) (own := RX5) rfl (by decide +kernel) rfl (Nat.le_of_ble_eq_true rfl) ?_
  intro X Y C R0 hin
  show Z l X G Y 2 0 0 0 [(0, .ref ((B 0))), (1, .int (iI z))] [] [((B 0), .inr (5, [.ref ((B 1)), .ref ((B 2)), .int (iI ((q0 : Int))), .ref ((B 3)), .int (iI ((q1 : Int))), .ref ((B 4)), .ref ((B 5)), .int (iI ((q2 : Int))), .int (iI ((q3 : Int))), .int (iI ((q4 : Int))), .ref ((B 6)), .ref ((B 7)), .int (iI ((q5 : Int))), .int (iI ((q6 : Int))), .ref ((B 8)), .ref ((B 9)), .ref ((B 10)), .ref ((B 11)), .ref ((B 12)), .int (iI ((q7 : Int)))])), cI G (B 1) 1547 M]
  have hm := zmul_b (a := z) (m := 12) (s := x) hz.1 hz.2 hx2
  refine z_iload_n (pc := 0) C dX5_lengthOf_0 1 rfl ?_
  refine z_aload_n (pc := 1) C dX5_lengthOf_1 0 rfl ?_
  refine z_get (pc := 2) C dX5_lengthOf_2 zCl5 ffX5_lengthOf_7 0 rfl rfl ?_
  refine z_iconst (pc := 5) C dX5_lengthOf_5 ?_
  refine z_iald (pc := 6) C dX5_lengthOf_6 1 rfl (0) (rfl) (by omega) (by decide) ?_
  refine z_imul (pc := 7) C dX5_lengthOf_7 ?_
  refine z_topi (y := (z * x)) (by rw [hx]) ?_
  refine z_bipush (pc := 8) C dX5_lengthOf_8 (by decide +kernel) ?_
  refine z_idiv (pc := 10) C dX5_lengthOf_10 ⟨by omega, by omega⟩ (by decide) ?_
  exact z_iret (pc := 11) C R0 dX5_lengthOf_11 (⟨rfl, rfl⟩)

theorem ffX5_levelAt_7 : zFF wsX5_levelAt RX5 7 RX5 TX5 20 0 := ⟨by decide +kernel, by decide, by decide +kernel⟩
set_option maxHeartbeats 4000000 in
set_option maxRecDepth 100000 in
theorem k_X5_levelAt (l : Launch) (G : ZG) (B : Nat → Nat) (q0 q1 q2 q3 q4 q5 q6 q7 : Nat) (M : Nat → Int) (z : Int) (s : ZS) (hs : zIs s) (hM : zMs M s) (hz : iR z) : Kt l G yX5_levelAt wsX5_levelAt { frames := 0, cells := 0, slots := 0, locals := 0 } 0 0 False [.ref ((B 0)), .int (iI z)] [((B 0), .inr (5, [.ref ((B 1)), .ref ((B 2)), .int (iI ((q0 : Int))), .ref ((B 3)), .int (iI ((q1 : Int))), .ref ((B 4)), .ref ((B 5)), .int (iI ((q2 : Int))), .int (iI ((q3 : Int))), .int (iI ((q4 : Int))), .ref ((B 6)), .ref ((B 7)), .int (iI ((q5 : Int))), .int (iI ((q6 : Int))), .ref ((B 8)), .ref ((B 9)), .ref ((B 10)), .ref ((B 11)), .ref ((B 12)), .int (iI ((q7 : Int)))])), cI G (B 1) 1547 M] (fun v9 w9 => v9 = some (.int (iI ((zlv s.1 z)))) ∧ w9 = [((B 0), .inr (5, [.ref ((B 1)), .ref ((B 2)), .int (iI ((q0 : Int))), .ref ((B 3)), .int (iI ((q1 : Int))), .ref ((B 4)), .ref ((B 5)), .int (iI ((q2 : Int))), .int (iI ((q3 : Int))), .int (iI ((q4 : Int))), .ref ((B 6)), .ref ((B 7)), .int (iI ((q5 : Int))), .int (iI ((q6 : Int))), .ref ((B 8)), .ref ((B 9)), .ref ((B 10)), .ref ((B 11)), .ref ((B 12)), .int (iI ((q7 : Int)))])), cI G (B 1) 1547 M]) := by
  refine Kt.of (cc := cX5_levelAt) (nL := 2) (ret := (some .int)) (own := RX5) rfl (by decide +kernel) rfl (Nat.le_of_ble_eq_true rfl) ?_
  intro X Y C R0 hin
  show Z l X G Y 2 0 0 0 [(0, .ref ((B 0))), (1, .int (iI z))] [] [((B 0), .inr (5, [.ref ((B 1)), .ref ((B 2)), .int (iI ((q0 : Int))), .ref ((B 3)), .int (iI ((q1 : Int))), .ref ((B 4)), .ref ((B 5)), .int (iI ((q2 : Int))), .int (iI ((q3 : Int))), .int (iI ((q4 : Int))), .ref ((B 6)), .ref ((B 7)), .int (iI ((q5 : Int))), .int (iI ((q6 : Int))), .ref ((B 8)), .ref ((B 9)), .ref ((B 10)), .ref ((B 11)), .ref ((B 12)), .int (iI ((q7 : Int)))])), cI G (B 1) 1547 M]
  obtain ⟨m0, m1, m2, m3, m4, m5, m6, he, hk⟩ := zMs_r hs hM
  refine z_iload_n (pc := 0) C dX5_levelAt_0 1 rfl ?_
  refine z_if_lt (tgt := 14) (pc := 1) C dX5_levelAt_1 (by decide) ⟨by omega, by omega⟩ (fun c1 => ?_) (fun c1 => ?_)
  · refine z_iconst (pc := 14) C dX5_levelAt_14 ?_
    refine z_goto (tgt := 27) (pc := 15) C dX5_levelAt_15 (by decide) ?_
    refine z_topi (y := (zlv s.1 z)) ((zlv_neg c1).symm) ?_
    exact z_iret (pc := 27) C R0 dX5_levelAt_27 (⟨rfl, rfl⟩)
  · refine z_iload_n (pc := 4) C dX5_levelAt_4 1 rfl ?_
    refine z_aload_n (pc := 5) C dX5_levelAt_5 0 rfl ?_
    refine z_get (pc := 6) C dX5_levelAt_6 zCl5 ffX5_levelAt_7 0 rfl rfl ?_
    refine z_iconst (pc := 9) C dX5_levelAt_9 ?_
    refine z_iald (pc := 10) C dX5_levelAt_10 1 rfl (5) (rfl) (by omega) (by decide) ?_
    refine z_icmp_lt (tgt := 18) (pc := 11) C dX5_levelAt_11 (by decide) ⟨by omega, by omega⟩ ⟨by omega, by omega⟩ (fun c11 => ?_) (fun c11 => ?_)
    · refine z_aload_n (pc := 18) C dX5_levelAt_18 0 rfl ?_
      refine z_get (pc := 19) C dX5_levelAt_19 zCl5 ffX5_levelAt_7 0 rfl rfl ?_
      refine z_bipush (pc := 22) C dX5_levelAt_22 (by decide +kernel) ?_
      refine z_iload_n (pc := 24) C dX5_levelAt_24 1 rfl ?_
      refine z_iadd (pc := 25) C dX5_levelAt_25 ?_
      refine z_iald (pc := 26) C dX5_levelAt_26 1 rfl ((47 + z.toNat)) (by omega) (by omega) (by decide) ?_
      refine z_topi (y := (zlv s.1 z)) (zMs_lv hM (by omega) (by omega)) ?_
      exact z_iret (pc := 27) C R0 dX5_levelAt_27 (⟨rfl, rfl⟩)
    · refine z_iconst (pc := 14) C dX5_levelAt_14 ?_
      refine z_goto (tgt := 27) (pc := 15) C dX5_levelAt_15 (by decide) ?_
      refine z_topi (y := (zlv s.1 z)) ((zlv_end hs (by omega)).symm) ?_
      exact z_iret (pc := 27) C R0 dX5_levelAt_27 (⟨rfl, rfl⟩)

theorem nyX5_levelAt : yX5_levelAt.cls ≠ "java/lang/invoke/MethodHandle" ∧ yX5_levelAt.cls ≠ "java/lang/invoke/VarHandle" ∧ (parseMethodDescriptor yX5_levelAt.desc).map (fun d => d.parameters.length) = some 1 := by decide +kernel
set_option maxHeartbeats 4000000 in
set_option maxRecDepth 100000 in
theorem k_X5_isFall (l : Launch) (G : ZG) (B : Nat → Nat) (q0 q1 q2 q3 q4 q5 q6 q7 : Nat) (M : Nat → Int) (t : Nat) (s : ZS) (hs : zIs s) (hM : zMs M s) (ht : t ≤ 1000000) : Kt l G yX5_isFall wsX5_isFall { frames := 1, cells := 0, slots := 0, locals := 21 } 0 0 False [.ref ((B 0)), .int (iI ((t : Int)))] [((B 0), .inr (5, [.ref ((B 1)), .ref ((B 2)), .int (iI ((q0 : Int))), .ref ((B 3)), .int (iI ((q1 : Int))), .ref ((B 4)), .ref ((B 5)), .int (iI ((q2 : Int))), .int (iI ((q3 : Int))), .int (iI ((q4 : Int))), .ref ((B 6)), .ref ((B 7)), .int (iI ((q5 : Int))), .int (iI ((q6 : Int))), .ref ((B 8)), .ref ((B 9)), .ref ((B 10)), .ref ((B 11)), .ref ((B 12)), .int (iI ((q7 : Int)))])), cI G (B 1) 1547 M] (fun v9 w9 => v9 = some (.int (iI ((zB (zfall s.1 t))))) ∧ w9 = [((B 0), .inr (5, [.ref ((B 1)), .ref ((B 2)), .int (iI ((q0 : Int))), .ref ((B 3)), .int (iI ((q1 : Int))), .ref ((B 4)), .ref ((B 5)), .int (iI ((q2 : Int))), .int (iI ((q3 : Int))), .int (iI ((q4 : Int))), .ref ((B 6)), .ref ((B 7)), .int (iI ((q5 : Int))), .int (iI ((q6 : Int))), .ref ((B 8)), .ref ((B 9)), .ref ((B 10)), .ref ((B 11)), .ref ((B 12)), .int (iI ((q7 : Int)))])), cI G (B 1) 1547 M]) := by
  refine Kt.of (cc := cX5_isFall) (nL := 2) (ret := (some .boolean)) (own := RX5) rfl (by decide +kernel) rfl (Nat.le_of_ble_eq_true rfl) ?_
  intro X Y C R0 hin
  show Z l X G Y 2 0 0 0 [(0, .ref ((B 0))), (1, .int (iI ((t : Int))))] [] [((B 0), .inr (5, [.ref ((B 1)), .ref ((B 2)), .int (iI ((q0 : Int))), .ref ((B 3)), .int (iI ((q1 : Int))), .ref ((B 4)), .ref ((B 5)), .int (iI ((q2 : Int))), .int (iI ((q3 : Int))), .int (iI ((q4 : Int))), .ref ((B 6)), .ref ((B 7)), .int (iI ((q5 : Int))), .int (iI ((q6 : Int))), .ref ((B 8)), .ref ((B 9)), .ref ((B 10)), .ref ((B 11)), .ref ((B 12)), .int (iI ((q7 : Int)))])), cI G (B 1) 1547 M]
  obtain ⟨m0, m1, m2, m3, m4, m5, m6, he, hk⟩ := zMs_r hs hM
  have hv0 := zlv_b s.1 (t : Int)
  have hv1 := zlv_b s.1 ((t : Int) - 1)
  refine z_aload_n (pc := 0) C dX5_isFall_0 0 rfl ?_
  refine z_iload_n (pc := 1) C dX5_isFall_1 1 rfl ?_
  refine z_callV (As := [.int (iI ((t : Int)))]) (rest := []) (wc := [((B 0), .inr (5, [.ref ((B 1)), .ref ((B 2)), .int (iI ((q0 : Int))), .ref ((B 3)), .int (iI ((q1 : Int))), .ref ((B 4)), .ref ((B 5)), .int (iI ((q2 : Int))), .int (iI ((q3 : Int))), .int (iI ((q4 : Int))), .ref ((B 6)), .ref ((B 7)), .int (iI ((q5 : Int))), .int (iI ((q6 : Int))), .ref ((B 8)), .ref ((B 9)), .ref ((B 10)), .ref ((B 11)), .ref ((B 12)), .int (iI ((q7 : Int)))])), cI G (B 1) 1547 M]) (wr := []) (fs := [.ref ((B 1)), .ref ((B 2)), .int (iI ((q0 : Int))), .ref ((B 3)), .int (iI ((q1 : Int))), .ref ((B 4)), .ref ((B 5)), .int (iI ((q2 : Int))), .int (iI ((q3 : Int))), .int (iI ((q4 : Int))), .ref ((B 6)), .ref ((B 7)), .int (iI ((q5 : Int))), .int (iI ((q6 : Int))), .ref ((B 8)), .ref ((B 9)), .ref ((B 10)), .ref ((B 11)), .ref ((B 12)), .int (iI ((q7 : Int)))]) (pc := 2) C dX5_isFall_2 (k_X5_levelAt l G B q0 q1 q2 q3 q4 q5 q6 q7 M (t : Int) s hs hM ⟨by omega, by omega⟩) gX5_isFall_X5_levelAt ⟨⟨_, rfl⟩, ⟨rfl, rfl⟩, nyX5_levelAt, ⟨Nat.le_of_ble_eq_true rfl, Nat.le_of_ble_eq_true rfl⟩⟩ rfl zCl5 rfl (fun h => h) rfl (Nat.le_of_ble_eq_true rfl) [0, 1] [] rfl rfl (by decide) (by decide) (by decide) ⟨Nat.le_of_ble_eq_true rfl, Nat.le_of_ble_eq_true rfl⟩ (fun v w hk => ?_)
  obtain ⟨rfl, rfl⟩ := hk
  refine z_fix (pc2 := 5) (st2 := [.int (iI ((zlv s.1 (t : Int))))]) (ws' := [((B 0), .inr (5, [.ref ((B 1)), .ref ((B 2)), .int (iI ((q0 : Int))), .ref ((B 3)), .int (iI ((q1 : Int))), .ref ((B 4)), .ref ((B 5)), .int (iI ((q2 : Int))), .int (iI ((q3 : Int))), .int (iI ((q4 : Int))), .ref ((B 6)), .ref ((B 7)), .int (iI ((q5 : Int))), .int (iI ((q6 : Int))), .ref ((B 8)), .ref ((B 9)), .ref ((B 10)), .ref ((B 11)), .ref ((B 12)), .int (iI ((q7 : Int)))])), cI G (B 1) 1547 M]) [0, 1] rfl rfl rfl (by decide) ?_
  refine z_if_ne (tgt := 23) (pc := 5) C dX5_isFall_5 (by decide) ⟨by omega, by omega⟩ (fun c5 => ?_) (fun c5 => ?_)
  · refine z_iconst (pc := 23) C dX5_isFall_23 ?_
    refine z_topi (y := (zB (zfall s.1 t))) (by rw [zfall_n (Or.inl c5)]; rfl) ?_
    exact z_zret (pc := 24) C R0 (zNz (ztn _)) dX5_isFall_24 (⟨rfl, rfl⟩)
  · refine z_aload_n (pc := 8) C dX5_isFall_8 0 rfl ?_
    refine z_iload_n (pc := 9) C dX5_isFall_9 1 rfl ?_
    refine z_iconst (pc := 10) C dX5_isFall_10 ?_
    refine z_isub (pc := 11) C dX5_isFall_11 ?_
    refine z_callV (As := [.int (iI (((t : Int) - 1)))]) (rest := []) (wc := [((B 0), .inr (5, [.ref ((B 1)), .ref ((B 2)), .int (iI ((q0 : Int))), .ref ((B 3)), .int (iI ((q1 : Int))), .ref ((B 4)), .ref ((B 5)), .int (iI ((q2 : Int))), .int (iI ((q3 : Int))), .int (iI ((q4 : Int))), .ref ((B 6)), .ref ((B 7)), .int (iI ((q5 : Int))), .int (iI ((q6 : Int))), .ref ((B 8)), .ref ((B 9)), .ref ((B 10)), .ref ((B 11)), .ref ((B 12)), .int (iI ((q7 : Int)))])), cI G (B 1) 1547 M]) (wr := []) (fs := [.ref ((B 1)), .ref ((B 2)), .int (iI ((q0 : Int))), .ref ((B 3)), .int (iI ((q1 : Int))), .ref ((B 4)), .ref ((B 5)), .int (iI ((q2 : Int))), .int (iI ((q3 : Int))), .int (iI ((q4 : Int))), .ref ((B 6)), .ref ((B 7)), .int (iI ((q5 : Int))), .int (iI ((q6 : Int))), .ref ((B 8)), .ref ((B 9)), .ref ((B 10)), .ref ((B 11)), .ref ((B 12)), .int (iI ((q7 : Int)))]) (pc := 12) C dX5_isFall_12 (k_X5_levelAt l G B q0 q1 q2 q3 q4 q5 q6 q7 M ((t : Int) - 1) s hs hM ⟨by omega, by omega⟩) gX5_isFall_X5_levelAt ⟨⟨_, rfl⟩, ⟨rfl, rfl⟩, nyX5_levelAt, ⟨Nat.le_of_ble_eq_true rfl, Nat.le_of_ble_eq_true rfl⟩⟩ rfl zCl5 rfl (fun h => h) rfl (Nat.le_of_ble_eq_true rfl) [0, 1] [] rfl rfl (by decide) (by decide) (by decide) ⟨Nat.le_of_ble_eq_true rfl, Nat.le_of_ble_eq_true rfl⟩ (fun v w hk => ?_)
    obtain ⟨rfl, rfl⟩ := hk
    refine z_fix (pc2 := 15) (st2 := [.int (iI ((zlv s.1 ((t : Int) - 1))))]) (ws' := [((B 0), .inr (5, [.ref ((B 1)), .ref ((B 2)), .int (iI ((q0 : Int))), .ref ((B 3)), .int (iI ((q1 : Int))), .ref ((B 4)), .ref ((B 5)), .int (iI ((q2 : Int))), .int (iI ((q3 : Int))), .int (iI ((q4 : Int))), .ref ((B 6)), .ref ((B 7)), .int (iI ((q5 : Int))), .int (iI ((q6 : Int))), .ref ((B 8)), .ref ((B 9)), .ref ((B 10)), .ref ((B 11)), .ref ((B 12)), .int (iI ((q7 : Int)))])), cI G (B 1) 1547 M]) [0, 1] rfl rfl rfl (by decide) ?_
    refine z_iconst (pc := 15) C dX5_isFall_15 ?_
    refine z_icmp_ne (tgt := 23) (pc := 16) C dX5_isFall_16 (by decide) ⟨by omega, by omega⟩ (by decide) (fun c16 => ?_) (fun c16 => ?_)
    · refine z_iconst (pc := 23) C dX5_isFall_23 ?_
      refine z_topi (y := (zB (zfall s.1 t))) (by rw [zfall_n (Or.inr c16)]; rfl) ?_
      exact z_zret (pc := 24) C R0 (zNz (ztn _)) dX5_isFall_24 (⟨rfl, rfl⟩)
    · refine z_iconst (pc := 19) C dX5_isFall_19 ?_
      refine z_goto (tgt := 24) (pc := 20) C dX5_isFall_20 (by decide) ?_
      refine z_topi (y := (zB (zfall s.1 t))) (by rw [zfall_y (by omega) (by omega)]; rfl) ?_
      exact z_zret (pc := 24) C R0 (zNz (ztn _)) dX5_isFall_24 (⟨rfl, rfl⟩)
