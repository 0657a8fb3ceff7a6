/-! THE RECEIVER, walked -/
set_option maxHeartbeats 4000000 in
set_option maxRecDepth 100000 in
theorem k_X1_thirdLook (l : Launch) (G : ZG) (f r : Nat) (hf : f ≤ 5000) (hr : r ≤ 40) : Kt l G yX1_thirdLook wsX1_thirdLook { frames := 0, cells := 0, slots := 0, locals := 0 } 0 0 False [.int (iI ((f : Int))), .int (iI ((r : Int)))] [] (fun v9 w9 => v9 = some (.int (iI ((((f + 2 * r / 3) : Nat) : Int)))) ∧ w9 = []) := by
  refine Kt.of (cc := cX1_thirdLook) (nL := 2) (ret := (some .int)) (own := RX1) rfl (by decide +kernel) rfl (Nat.le_of_ble_eq_true rfl) ?_
  intro X Y C R0 hin
  show Z l X G Y 2 0 0 0 [(0, .int (iI ((f : Int)))), (1, .int (iI ((r : Int))))] [] []
  refine z_iload_n (pc := 0) C dX1_thirdLook_0 0 rfl ?_
  refine z_iconst (pc := 1) C dX1_thirdLook_1 ?_
  refine z_iload_n (pc := 2) C dX1_thirdLook_2 1 rfl ?_
  refine z_imul (pc := 3) C dX1_thirdLook_3 ?_
  refine z_iconst (pc := 4) C dX1_thirdLook_4 ?_
  refine z_idiv (pc := 5) C dX1_thirdLook_5 ⟨by omega, by omega⟩ (by decide) ?_
  refine z_iadd (pc := 6) C dX1_thirdLook_6 ?_
  exact z_iret (pc := 7) C R0 dX1_thirdLook_7 (⟨rfl, rfl⟩)

set_option maxHeartbeats 4000000 in
set_option maxRecDepth 100000 in
theorem k_X1_wordIn (l : Launch) (G : ZG) (n : Nat) (hn : n ≤ 5000) : Kt l G yX1_wordIn wsX1_wordIn { frames := 0, cells := 0, slots := 0, locals := 0 } 0 0 False [.int (iI ((n : Int)))] [] (fun v9 w9 => v9 = some (.int (iI ((((n / 2 % 256) : Nat) : Int)))) ∧ w9 = []) := by
  refine Kt.of (cc := cX1_wordIn) (nL := 1) (ret := (some .int)) (own := RX1) rfl (by decide +kernel) rfl (Nat.le_of_ble_eq_true rfl) ?_
  intro X Y C R0 hin
  show Z l X G Y 1 0 0 0 [(0, .int (iI ((n : Int))))] [] []
  refine z_iload_n (pc := 0) C dX1_wordIn_0 0 rfl ?_
  refine z_iconst (pc := 1) C dX1_wordIn_1 ?_
  refine z_ishr (pc := 2) C dX1_wordIn_2 ⟨by omega, by omega⟩ (by decide) ?_
  refine z_topi (y := (((n / 2) : Nat) : Int)) (rfl) ?_
  refine z_sipush (pc := 3) C dX1_wordIn_3 (by decide +kernel) ?_
  refine z_iand (pc := 6) C dX1_wordIn_6 ⟨by omega, by omega⟩ (by decide) ?_
  refine z_topi (y := (((n / 2 % 256) : Nat) : Int)) (zand255 (n / 2)) ?_
  exact z_iret (pc := 7) C R0 dX1_wordIn_7 (⟨rfl, rfl⟩)

theorem nyX1_wordIn : yX1_wordIn.cls ≠ "java/lang/invoke/MethodHandle" ∧ yX1_wordIn.cls ≠ "java/lang/invoke/VarHandle" ∧ (parseMethodDescriptor yX1_wordIn.desc).map (fun d => d.parameters.length) = some 1 := by decide +kernel
set_option maxHeartbeats 4000000 in
set_option maxRecDepth 100000 in
theorem k_X1_kindOf (l : Launch) (G : ZG) (n p : Nat) (q : Int) (hn : n ≤ 5000) (hp : p ≤ 10) (hq : 0 ≤ q ∧ q ≤ 2) : Kt l G yX1_kindOf wsX1_kindOf { frames := 2, cells := 0, slots := 0, locals := 42 } 0 0 False [.int (iI ((n : Int))), .int (iI ((p : Int))), .int (iI q)] [] (fun v9 w9 => v9 = some (.int (iI ((zko n p q)))) ∧ w9 = []) := by
  refine Kt.of (cc := cX1_kindOf) (nL := 3) (ret := (some .int)) (own := RX1) rfl (by decide +kernel) rfl (Nat.le_of_ble_eq_true rfl) ?_
  intro X Y C R0 hin
  show Z l X G Y 3 0 0 0 [(0, .int (iI ((n : Int)))), (1, .int (iI ((p : Int)))), (2, .int (iI q))] [] []
  obtain ⟨m, hm, hmn⟩ : ∃ m, n / 2 ^ p = m ∧ m ≤ n := ⟨_, rfl, Nat.div_le_self _ _⟩
  refine z_iload_n (pc := 0) C dX1_kindOf_0 0 rfl ?_
  refine z_if_ne (tgt := 6) (pc := 1) C dX1_kindOf_1 (by decide) ⟨by omega, by omega⟩ (fun c1 => ?_) (fun c1 => ?_)
  · refine z_iload_n (pc := 6) C dX1_kindOf_6 0 rfl ?_
    refine z_iload_n (pc := 7) C dX1_kindOf_7 1 rfl ?_
    refine z_ishr (pc := 8) C dX1_kindOf_8 ⟨by omega, by omega⟩ ⟨by omega, by omega⟩ ?_
    refine z_topi (y := (m : Int)) (by rw [zdiv_pow, hm]) ?_
    refine z_iconst (pc := 9) C dX1_kindOf_9 ?_
    refine z_iand (pc := 10) C dX1_kindOf_10 ⟨by omega, by omega⟩ (by decide) ?_
    refine z_topi (y := (((m % 2) : Nat) : Int)) (by rw [zand1 (by omega)]; rfl) ?_
    refine z_if_ne (tgt := 16) (pc := 11) C dX1_kindOf_11 (by decide) ⟨by omega, by omega⟩ (fun c11 => ?_) (fun c11 => ?_)
    · refine z_iload_n (pc := 16) C dX1_kindOf_16 2 rfl ?_
      refine z_if_eq (tgt := 39) (pc := 17) C dX1_kindOf_17 (by decide) ⟨by omega, by omega⟩ (fun c17 => ?_) (fun c17 => ?_)
      · refine z_iconst (pc := 39) C dX1_kindOf_39 ?_
        refine z_topi (y := (zko n p q)) (by unfold zko; rw [if_neg (by omega), hm, if_neg (by omega), if_neg (fun h => h.1 c17)]) ?_
        exact z_iret (pc := 40) C R0 dX1_kindOf_40 (⟨rfl, rfl⟩)
      · refine z_iload_n (pc := 20) C dX1_kindOf_20 0 rfl ?_
        refine z_bipush (pc := 21) C dX1_kindOf_21 (by decide +kernel) ?_
        refine z_ishr (pc := 23) C dX1_kindOf_23 ⟨by omega, by omega⟩ (by decide) ?_
        refine z_topi (y := (((n / 2 ^ 9) : Nat) : Int)) (rfl) ?_
        refine z_iconst (pc := 24) C dX1_kindOf_24 ?_
        refine z_iand (pc := 25) C dX1_kindOf_25 ⟨by omega, by omega⟩ (by decide) ?_
        refine z_topi (y := (((n / 2 ^ 9 % 2) : Nat) : Int)) (by rw [zand1 (by omega)]; rfl) ?_
        refine z_iload_n (pc := 26) C dX1_kindOf_26 0 rfl ?_
        refine z_callS (As := [.int (iI ((n : Int)))]) (rest := [.int (iI ((((n / 2 ^ 9 % 2) : Nat) : Int)))]) (wc := []) (wr := []) (pc := 27) C dX1_kindOf_27 (k_X1_wordIn l G n hn) gX1_kindOf_X1_wordIn ⟨⟨_, rfl⟩, ⟨rfl, rfl⟩, nyX1_wordIn, ⟨Nat.le_of_ble_eq_true rfl, Nat.le_of_ble_eq_true rfl⟩⟩ (fun h => h) rfl (Nat.le_of_ble_eq_true rfl) [] [] rfl rfl (by decide) (by decide) (by decide) ⟨Nat.le_of_ble_eq_true rfl, Nat.le_of_ble_eq_true rfl⟩ (fun v w hk => ?_)
        obtain ⟨rfl, rfl⟩ := hk
        refine z_fix (pc2 := 30) (st2 := [.int (iI ((((n / 2 % 256) : Nat) : Int))), .int (iI ((((n / 2 ^ 9 % 2) : Nat) : Int)))]) (ws' := []) [] rfl rfl rfl (by decide) ?_
        refine z_iload_n (pc := 30) C dX1_kindOf_30 2 rfl ?_
        refine z_callSN (As := [.int (iI ((((n / 2 % 256) : Nat) : Int))), .int (iI q)]) (rest := [.int (iI ((((n / 2 ^ 9 % 2) : Nat) : Int)))]) (wc := []) (wr := []) (pc := 31) C dX1_kindOf_31 (k_X4_parityOf l G (n / 2 % 256) q (by omega) ⟨by omega, by omega⟩) gX1_kindOf_X4_parityOf_n77 ⟨⟨_, rfl⟩, ⟨rfl, rfl⟩, nyX4_parityOf, ⟨Nat.le_of_ble_eq_true rfl, Nat.le_of_ble_eq_true rfl⟩⟩ (fun h => h.1) (by decide +kernel) (by decide +kernel) (fun h => h) rfl (Nat.le_of_ble_eq_true rfl) [] [] rfl rfl (by decide) (by decide) (by decide) ⟨Nat.le_of_ble_eq_true rfl, Nat.le_of_ble_eq_true rfl⟩ (fun v w hk => ?_)
        obtain ⟨rfl, rfl⟩ := hk
        refine z_fix (pc2 := 34) (st2 := [.int (iI ((zpar q (n / 2 % 256)))), .int (iI ((((n / 2 ^ 9 % 2) : Nat) : Int)))]) (ws' := []) [] rfl rfl rfl (by decide) ?_
        have hpb := zpar_b q (n / 2 % 256)
        refine z_icmp_eq (tgt := 39) (pc := 34) C dX1_kindOf_34 (by decide) ⟨by omega, by omega⟩ ⟨by omega, by omega⟩ (fun c34 => ?_) (fun c34 => ?_)
        · refine z_iconst (pc := 39) C dX1_kindOf_39 ?_
          refine z_topi (y := (zko n p q)) (by unfold zko; rw [if_neg (by omega), hm, if_neg (by omega), if_neg (fun h => h.2 c34)]) ?_
          exact z_iret (pc := 40) C R0 dX1_kindOf_40 (⟨rfl, rfl⟩)
        · refine z_iconst (pc := 37) C dX1_kindOf_37 ?_
          refine z_topi (y := (zko n p q)) (by unfold zko; rw [if_neg (by omega), hm, if_neg (by omega), if_pos ⟨c17, c34⟩]) ?_
          exact z_iret (pc := 38) C R0 dX1_kindOf_38 (⟨rfl, rfl⟩)
    · refine z_iconst (pc := 14) C dX1_kindOf_14 ?_
      refine z_topi (y := (zko n p q)) (by unfold zko; rw [if_neg (by omega), hm, if_pos (by omega)]) ?_
      exact z_iret (pc := 15) C R0 dX1_kindOf_15 (⟨rfl, rfl⟩)
  · refine z_iconst (pc := 4) C dX1_kindOf_4 ?_
    refine z_topi (y := (zko n p q)) (by unfold zko; rw [if_pos (by omega)]) ?_
    exact z_iret (pc := 5) C R0 dX1_kindOf_5 (⟨rfl, rfl⟩)

theorem nyX1_thirdLook : yX1_thirdLook.cls ≠ "java/lang/invoke/MethodHandle" ∧ yX1_thirdLook.cls ≠ "java/lang/invoke/VarHandle" ∧ (parseMethodDescriptor yX1_thirdLook.desc).map (fun d => d.parameters.length) = some 2 := by decide +kernel
theorem ffX1_tellBit_51 : zFF wsX1_tellBit RX1 51 RX1 TX1 4 3 := ⟨by decide +kernel, by decide, by decide +kernel⟩
theorem nyX2_setting : yX2_setting.cls ≠ "java/lang/invoke/MethodHandle" ∧ yX2_setting.cls ≠ "java/lang/invoke/VarHandle" ∧ (parseMethodDescriptor yX2_setting.desc).map (fun d => d.parameters.length) = some 1 := by decide +kernel
set_option maxHeartbeats 4000000 in
set_option maxRecDepth 100000 in
theorem k_X1_tellBit (l : Launch) (G : ZG) (h a1 a2 a3 : Nat) (b : Nat → Bool) (W S : Nat → Int) (e k : Nat) (hI : zI b W S e k) (q na c fs db f r : Nat) (hf : f ≤ 5000) (hr : 4 ≤ r ∧ r ≤ 40) (hdb : db ≤ 100) : Kt l G yX1_tellBit wsX1_tellBit { frames := 1, cells := 0, slots := 0, locals := 21 } 0 0 False [.ref q, .ref h, .int (iI ((f : Int))), .int (iI ((r : Int)))] [(q, .inr (1, [.ref na, .int (iI ((c : Int))), .int (iI ((fs : Int))), .int (iI ((db : Int)))])), (h, .inr (2, [.ref a1, .ref a2, .ref a3, .int (iI ((e : Int))), .int (iI ((k : Int)))])), cL G a1 24 (zrw b), cI G a2 37 W, cI G a3 5 S] (fun v9 w9 => v9 = some (.int (iI ((((zvo b (S 4) f r) : Nat) : Int)))) ∧ w9 = [(q, .inr (1, [.ref na, .int (iI ((c : Int))), .int (iI ((fs : Int))), .int (iI ((((db + zdo b f r) : Nat) : Int)))])), (h, .inr (2, [.ref a1, .ref a2, .ref a3, .int (iI ((e : Int))), .int (iI ((k : Int)))])), cL G a1 24 (zrw b), cI G a2 37 W, cI G a3 5 S]) := by
  refine Kt.of (cc := cX1_tellBit) (nL := 6) (ret := (some .int)) (own := RX1) rfl (by decide +kernel) rfl (Nat.le_of_ble_eq_true rfl) ?_
  intro X Y C R0 hin
  show Z l X G Y 6 0 0 0 [(0, .ref q), (1, .ref h), (2, .int (iI ((f : Int)))), (3, .int (iI ((r : Int))))] [] [(q, .inr (1, [.ref na, .int (iI ((c : Int))), .int (iI ((fs : Int))), .int (iI ((db : Int)))])), (h, .inr (2, [.ref a1, .ref a2, .ref a3, .int (iI ((e : Int))), .int (iI ((k : Int)))])), cL G a1 24 (zrw b), cI G a2 37 W, cI G a3 5 S]
  obtain ⟨he, hk, hb, s0, s1, s2, s3, s4, hw⟩ := id hI
  refine z_aload_n (pc := 0) C dX1_tellBit_0 1 rfl ?_
  refine z_iload_n (pc := 1) C dX1_tellBit_1 2 rfl ?_
  refine z_iload_n (pc := 2) C dX1_tellBit_2 3 rfl ?_
  refine z_iconst (pc := 3) C dX1_tellBit_3 ?_
  refine z_idiv (pc := 4) C dX1_tellBit_4 ⟨by omega, by omega⟩ (by decide) ?_
  refine z_iadd (pc := 5) C dX1_tellBit_5 ?_
  refine z_callV (As := [.int (iI (((f : Int) + ((r : Int) / 2))))]) (rest := []) (wc := [(h, .inr (2, [.ref a1, .ref a2, .ref a3, .int (iI ((e : Int))), .int (iI ((k : Int)))])), cL G a1 24 (zrw b), cI G a2 37 W, cI G a3 5 S]) (wr := [(q, .inr (1, [.ref na, .int (iI ((c : Int))), .int (iI ((fs : Int))), .int (iI ((db : Int)))]))]) (fs := [.ref a1, .ref a2, .ref a3, .int (iI ((e : Int))), .int (iI ((k : Int)))]) (pc := 6) C dX1_tellBit_6 (k_X2_levelAt l G h a1 a2 a3 b W S e k hI (((f + r / 2) : Nat) : Int) ⟨by omega, by omega⟩) gX1_tellBit_X2_levelAt ⟨⟨_, rfl⟩, ⟨rfl, rfl⟩, nyX2_levelAt, ⟨Nat.le_of_ble_eq_true rfl, Nat.le_of_ble_eq_true rfl⟩⟩ rfl zCl2 rfl (fun h => h) rfl (Nat.le_of_ble_eq_true rfl) [1, 2, 3, 4] [0] rfl rfl (by decide) (by decide) (by decide) ⟨Nat.le_of_ble_eq_true rfl, Nat.le_of_ble_eq_true rfl⟩ (fun v w hk => ?_)
  obtain ⟨rfl, rfl⟩ := hk
  refine z_fix (pc2 := 9) (st2 := [.int (iI ((zlv b (((f + r / 2) : Nat) : Int))))]) (ws' := [(q, .inr (1, [.ref na, .int (iI ((c : Int))), .int (iI ((fs : Int))), .int (iI ((db : Int)))])), (h, .inr (2, [.ref a1, .ref a2, .ref a3, .int (iI ((e : Int))), .int (iI ((k : Int)))])), cL G a1 24 (zrw b), cI G a2 37 W, cI G a3 5 S]) [0, 1, 2, 3, 4] rfl rfl rfl (by decide) ?_
  refine z_topi (y := ((((b (f + r / 2)).toNat) : Nat) : Int)) (zlv_nat b (f + r / 2)) ?_
  refine z_istore (lv' := [(4, .int (iI (((((b (f + r / 2)).toNat) : Nat) : Int)))), (0, .ref q), (1, .ref h), (2, .int (iI ((f : Int)))), (3, .int (iI ((r : Int))))]) (pc := 9) C dX1_tellBit_9 (by decide) rfl ?_
  refine z_aload_n (pc := 11) C dX1_tellBit_11 2 rfl ?_
  refine z_iload_n (pc := 12) C dX1_tellBit_12 3 rfl ?_
  refine z_iload_n (pc := 13) C dX1_tellBit_13 4 rfl ?_
  refine z_iconst (pc := 14) C dX1_tellBit_14 ?_
  refine z_idiv (pc := 15) C dX1_tellBit_15 ⟨by omega, by omega⟩ (by decide) ?_
  refine z_iadd (pc := 16) C dX1_tellBit_16 ?_
  refine z_callV (As := [.int (iI (((f : Int) + ((r : Int) / 3))))]) (rest := []) (wc := [(h, .inr (2, [.ref a1, .ref a2, .ref a3, .int (iI ((e : Int))), .int (iI ((k : Int)))])), cL G a1 24 (zrw b), cI G a2 37 W, cI G a3 5 S]) (wr := [(q, .inr (1, [.ref na, .int (iI ((c : Int))), .int (iI ((fs : Int))), .int (iI ((db : Int)))]))]) (fs := [.ref a1, .ref a2, .ref a3, .int (iI ((e : Int))), .int (iI ((k : Int)))]) (pc := 17) C dX1_tellBit_17 (k_X2_levelAt l G h a1 a2 a3 b W S e k hI (((f + r / 3) : Nat) : Int) ⟨by omega, by omega⟩) gX1_tellBit_X2_levelAt ⟨⟨_, rfl⟩, ⟨rfl, rfl⟩, nyX2_levelAt, ⟨Nat.le_of_ble_eq_true rfl, Nat.le_of_ble_eq_true rfl⟩⟩ rfl zCl2 rfl (fun h => h) rfl (Nat.le_of_ble_eq_true rfl) [1, 2, 3, 4] [0] rfl rfl (by decide) (by decide) (by decide) ⟨Nat.le_of_ble_eq_true rfl, Nat.le_of_ble_eq_true rfl⟩ (fun v w hk => ?_)
  obtain ⟨rfl, rfl⟩ := hk
  refine z_fix (pc2 := 20) (st2 := [.int (iI ((zlv b (((f + r / 3) : Nat) : Int))))]) (ws' := [(q, .inr (1, [.ref na, .int (iI ((c : Int))), .int (iI ((fs : Int))), .int (iI ((db : Int)))])), (h, .inr (2, [.ref a1, .ref a2, .ref a3, .int (iI ((e : Int))), .int (iI ((k : Int)))])), cL G a1 24 (zrw b), cI G a2 37 W, cI G a3 5 S]) [0, 1, 2, 3, 4] rfl rfl rfl (by decide) ?_
  refine z_topi (y := ((((b (f + r / 3)).toNat) : Nat) : Int)) (zlv_nat b (f + r / 3)) ?_
  refine z_iload (pc := 20) C dX1_tellBit_20 0 rfl ?_
  refine z_iadd (pc := 22) C dX1_tellBit_22 ?_
  refine z_aload_n (pc := 23) C dX1_tellBit_23 2 rfl ?_
  refine z_iload_n (pc := 24) C dX1_tellBit_24 3 rfl ?_
  refine z_iload_n (pc := 25) C dX1_tellBit_25 4 rfl ?_
  refine z_callS (As := [.int (iI ((f : Int))), .int (iI ((r : Int)))]) (rest := [.ref h, .int (iI ((((((b (f + r / 3)).toNat) : Nat) : Int) + ((((b (f + r / 2)).toNat) : Nat) : Int))))]) (wc := []) (wr := [(q, .inr (1, [.ref na, .int (iI ((c : Int))), .int (iI ((fs : Int))), .int (iI ((db : Int)))])), (h, .inr (2, [.ref a1, .ref a2, .ref a3, .int (iI ((e : Int))), .int (iI ((k : Int)))])), cL G a1 24 (zrw b), cI G a2 37 W, cI G a3 5 S]) (pc := 26) C dX1_tellBit_26 (k_X1_thirdLook l G f r hf hr.2) gX1_tellBit_X1_thirdLook ⟨⟨_, rfl⟩, ⟨rfl, rfl⟩, nyX1_thirdLook, ⟨Nat.le_of_ble_eq_true rfl, Nat.le_of_ble_eq_true rfl⟩⟩ (fun h => h) rfl (Nat.le_of_ble_eq_true rfl) [] [0, 1, 2, 3, 4] rfl rfl (by decide) (by decide) (by decide) ⟨Nat.le_of_ble_eq_true rfl, Nat.le_of_ble_eq_true rfl⟩ (fun v w hk => ?_)
  obtain ⟨rfl, rfl⟩ := hk
  refine z_fix (pc2 := 29) (st2 := [.int (iI ((((f + 2 * r / 3) : Nat) : Int))), .ref h, .int (iI ((((((b (f + r / 3)).toNat) : Nat) : Int) + ((((b (f + r / 2)).toNat) : Nat) : Int))))]) (ws' := [(q, .inr (1, [.ref na, .int (iI ((c : Int))), .int (iI ((fs : Int))), .int (iI ((db : Int)))])), (h, .inr (2, [.ref a1, .ref a2, .ref a3, .int (iI ((e : Int))), .int (iI ((k : Int)))])), cL G a1 24 (zrw b), cI G a2 37 W, cI G a3 5 S]) [0, 1, 2, 3, 4] rfl rfl rfl (by decide) ?_
  refine z_callV (As := [.int (iI ((((f + 2 * r / 3) : Nat) : Int)))]) (rest := [.int (iI ((((((b (f + r / 3)).toNat) : Nat) : Int) + ((((b (f + r / 2)).toNat) : Nat) : Int))))]) (wc := [(h, .inr (2, [.ref a1, .ref a2, .ref a3, .int (iI ((e : Int))), .int (iI ((k : Int)))])), cL G a1 24 (zrw b), cI G a2 37 W, cI G a3 5 S]) (wr := [(q, .inr (1, [.ref na, .int (iI ((c : Int))), .int (iI ((fs : Int))), .int (iI ((db : Int)))]))]) (fs := [.ref a1, .ref a2, .ref a3, .int (iI ((e : Int))), .int (iI ((k : Int)))]) (pc := 29) C dX1_tellBit_29 (k_X2_levelAt l G h a1 a2 a3 b W S e k hI (((f + 2 * r / 3) : Nat) : Int) ⟨by omega, by omega⟩) gX1_tellBit_X2_levelAt ⟨⟨_, rfl⟩, ⟨rfl, rfl⟩, nyX2_levelAt, ⟨Nat.le_of_ble_eq_true rfl, Nat.le_of_ble_eq_true rfl⟩⟩ rfl zCl2 rfl (fun h => h) rfl (Nat.le_of_ble_eq_true rfl) [1, 2, 3, 4] [0] rfl rfl (by decide) (by decide) (by decide) ⟨Nat.le_of_ble_eq_true rfl, Nat.le_of_ble_eq_true rfl⟩ (fun v w hk => ?_)
  obtain ⟨rfl, rfl⟩ := hk
  refine z_fix (pc2 := 32) (st2 := [.int (iI ((zlv b (((f + 2 * r / 3) : Nat) : Int)))), .int (iI ((((((b (f + r / 3)).toNat) : Nat) : Int) + ((((b (f + r / 2)).toNat) : Nat) : Int))))]) (ws' := [(q, .inr (1, [.ref na, .int (iI ((c : Int))), .int (iI ((fs : Int))), .int (iI ((db : Int)))])), (h, .inr (2, [.ref a1, .ref a2, .ref a3, .int (iI ((e : Int))), .int (iI ((k : Int)))])), cL G a1 24 (zrw b), cI G a2 37 W, cI G a3 5 S]) [0, 1, 2, 3, 4] rfl rfl rfl (by decide) ?_
  refine z_topi (y := ((((b (f + 2 * r / 3)).toNat) : Nat) : Int)) (zlv_nat b (f + 2 * r / 3)) ?_
  refine z_iadd (pc := 32) C dX1_tellBit_32 ?_
  have hsb := zsm_b b f r
  have h2b := ztn (b (f + r / 2))
  refine z_topi (y := (((zsm b f r) : Nat) : Int)) (rfl) ?_
  refine z_istore (lv' := [(5, .int (iI ((((zsm b f r) : Nat) : Int)))), (4, .int (iI (((((b (f + r / 2)).toNat) : Nat) : Int)))), (0, .ref q), (1, .ref h), (2, .int (iI ((f : Int)))), (3, .int (iI ((r : Int))))]) (pc := 33) C dX1_tellBit_33 (by decide) rfl ?_
  refine z_iload (pc := 35) C dX1_tellBit_35 0 rfl ?_
  refine z_iconst (pc := 37) C dX1_tellBit_37 ?_
  refine z_icmp_eq (tgt := 47) (pc := 38) C dX1_tellBit_38 (by decide) ⟨by omega, by omega⟩ (by decide) (fun c38 => ?_) (fun c38 => ?_)
  · refine z_aload_n (pc := 47) C dX1_tellBit_47 2 rfl ?_
    refine z_dup (pc := 48) C dX1_tellBit_48 rfl ?_
    refine z_get (pc := 49) C dX1_tellBit_49 zCl1 ffX1_tellBit_51 0 rfl rfl ?_
    refine z_iconst (pc := 52) C dX1_tellBit_52 ?_
    refine z_iadd (pc := 53) C dX1_tellBit_53 ?_
    refine z_put (ty := .int) (ws' := [(q, .inr (1, [.ref na, .int (iI ((c : Int))), .int (iI ((fs : Int))), .int (iI (((db : Int) + 1)))])), (h, .inr (2, [.ref a1, .ref a2, .ref a3, .int (iI ((e : Int))), .int (iI ((k : Int)))])), cL G a1 24 (zrw b), cI G a2 37 W, cI G a3 5 S]) (pc := 54) C dX1_tellBit_54 zCl1 ffX1_tellBit_51 0 rfl rfl rfl rfl rfl (Nat.le_of_ble_eq_true rfl) rfl ?_
    refine z_ws (ws' := [(q, .inr (1, [.ref na, .int (iI ((c : Int))), .int (iI ((fs : Int))), .int (iI ((((db + zdo b f r) : Nat) : Int)))])), (h, .inr (2, [.ref a1, .ref a2, .ref a3, .int (iI ((e : Int))), .int (iI ((k : Int)))])), cL G a1 24 (zrw b), cI G a2 37 W, cI G a3 5 S]) [0, 1, 2, 3, 4] (by rw [show zdo b f r = 1 by unfold zdo; first | rw [if_pos (by omega)] | rw [if_neg (by omega)]]; rfl) (by decide) ?_
    refine z_aload_n (pc := 57) C dX1_tellBit_57 3 rfl ?_
    refine z_iconst (pc := 58) C dX1_tellBit_58 ?_
    refine z_callV (As := [.int (iI 4)]) (rest := []) (wc := [(h, .inr (2, [.ref a1, .ref a2, .ref a3, .int (iI ((e : Int))), .int (iI ((k : Int)))])), cL G a1 24 (zrw b), cI G a2 37 W, cI G a3 5 S]) (wr := [(q, .inr (1, [.ref na, .int (iI ((c : Int))), .int (iI ((fs : Int))), .int (iI ((((db + zdo b f r) : Nat) : Int)))]))]) (fs := [.ref a1, .ref a2, .ref a3, .int (iI ((e : Int))), .int (iI ((k : Int)))]) (pc := 59) C dX1_tellBit_59 (k_X2_setting l G h a1 a2 a3 b W S e k hI 4 4 rfl (by decide)) gX1_tellBit_X2_setting ⟨⟨_, rfl⟩, ⟨rfl, rfl⟩, nyX2_setting, ⟨Nat.le_of_ble_eq_true rfl, Nat.le_of_ble_eq_true rfl⟩⟩ rfl zCl2 rfl (fun h => h) rfl (Nat.le_of_ble_eq_true rfl) [1, 2, 3, 4] [0] rfl rfl (by decide) (by decide) (by decide) ⟨Nat.le_of_ble_eq_true rfl, Nat.le_of_ble_eq_true rfl⟩ (fun v w hk => ?_)
    obtain ⟨rfl, rfl⟩ := hk
    refine z_fix (pc2 := 62) (st2 := [.int (iI ((S 4)))]) (ws' := [(q, .inr (1, [.ref na, .int (iI ((c : Int))), .int (iI ((fs : Int))), .int (iI ((((db + zdo b f r) : Nat) : Int)))])), (h, .inr (2, [.ref a1, .ref a2, .ref a3, .int (iI ((e : Int))), .int (iI ((k : Int)))])), cL G a1 24 (zrw b), cI G a2 37 W, cI G a3 5 S]) [0, 1, 2, 3, 4] rfl rfl rfl (by decide) ?_
    refine z_iconst (pc := 62) C dX1_tellBit_62 ?_
    refine z_icmp_ne (tgt := 69) (pc := 63) C dX1_tellBit_63 (by decide) ⟨by omega, by omega⟩ (by decide) (fun c63 => ?_) (fun c63 => ?_)
    · refine z_iload (pc := 69) C dX1_tellBit_69 0 rfl ?_
      refine z_iconst (pc := 71) C dX1_tellBit_71 ?_
      refine z_icmp_lt (tgt := 79) (pc := 72) C dX1_tellBit_72 (by decide) ⟨by omega, by omega⟩ (by decide) (fun c72 => ?_) (fun c72 => ?_)
      · refine z_iconst (pc := 79) C dX1_tellBit_79 ?_
        refine z_topi (y := (((zvo b (S 4) f r) : Nat) : Int)) (by unfold zvo; rw [if_neg c63, if_neg (by omega)]; rfl) ?_
        exact z_iret (pc := 80) C R0 dX1_tellBit_80 (⟨rfl, rfl⟩)
      · refine z_iconst (pc := 75) C dX1_tellBit_75 ?_
        refine z_goto (tgt := 80) (pc := 76) C dX1_tellBit_76 (by decide) ?_
        refine z_topi (y := (((zvo b (S 4) f r) : Nat) : Int)) (by unfold zvo; rw [if_neg c63, if_pos (by omega)]; rfl) ?_
        exact z_iret (pc := 80) C R0 dX1_tellBit_80 (⟨rfl, rfl⟩)
    · refine z_iload (pc := 66) C dX1_tellBit_66 1 rfl ?_
      refine z_topi (y := (((zvo b (S 4) f r) : Nat) : Int)) (by unfold zvo; rw [if_pos c63]) ?_
      exact z_iret (pc := 68) C R0 dX1_tellBit_68 (⟨rfl, rfl⟩)
  · refine z_iload (pc := 41) C dX1_tellBit_41 0 rfl ?_
    refine z_iconst (pc := 43) C dX1_tellBit_43 ?_
    refine z_icmp_ne (tgt := 57) (pc := 44) C dX1_tellBit_44 (by decide) ⟨by omega, by omega⟩ (by decide) (fun c44 => ?_) (fun c44 => ?_)
    · refine z_ws (ws' := [(q, .inr (1, [.ref na, .int (iI ((c : Int))), .int (iI ((fs : Int))), .int (iI ((((db + zdo b f r) : Nat) : Int)))])), (h, .inr (2, [.ref a1, .ref a2, .ref a3, .int (iI ((e : Int))), .int (iI ((k : Int)))])), cL G a1 24 (zrw b), cI G a2 37 W, cI G a3 5 S]) [0, 1, 2, 3, 4] (by rw [show zdo b f r = 0 by unfold zdo; first | rw [if_pos (by omega)] | rw [if_neg (by omega)]]; rfl) (by decide) ?_
      refine z_aload_n (pc := 57) C dX1_tellBit_57 3 rfl ?_
      refine z_iconst (pc := 58) C dX1_tellBit_58 ?_
      refine z_callV (As := [.int (iI 4)]) (rest := []) (wc := [(h, .inr (2, [.ref a1, .ref a2, .ref a3, .int (iI ((e : Int))), .int (iI ((k : Int)))])), cL G a1 24 (zrw b), cI G a2 37 W, cI G a3 5 S]) (wr := [(q, .inr (1, [.ref na, .int (iI ((c : Int))), .int (iI ((fs : Int))), .int (iI ((((db + zdo b f r) : Nat) : Int)))]))]) (fs := [.ref a1, .ref a2, .ref a3, .int (iI ((e : Int))), .int (iI ((k : Int)))]) (pc := 59) C dX1_tellBit_59 (k_X2_setting l G h a1 a2 a3 b W S e k hI 4 4 rfl (by decide)) gX1_tellBit_X2_setting ⟨⟨_, rfl⟩, ⟨rfl, rfl⟩, nyX2_setting, ⟨Nat.le_of_ble_eq_true rfl, Nat.le_of_ble_eq_true rfl⟩⟩ rfl zCl2 rfl (fun h => h) rfl (Nat.le_of_ble_eq_true rfl) [1, 2, 3, 4] [0] rfl rfl (by decide) (by decide) (by decide) ⟨Nat.le_of_ble_eq_true rfl, Nat.le_of_ble_eq_true rfl⟩ (fun v w hk => ?_)
      obtain ⟨rfl, rfl⟩ := hk
      refine z_fix (pc2 := 62) (st2 := [.int (iI ((S 4)))]) (ws' := [(q, .inr (1, [.ref na, .int (iI ((c : Int))), .int (iI ((fs : Int))), .int (iI ((((db + zdo b f r) : Nat) : Int)))])), (h, .inr (2, [.ref a1, .ref a2, .ref a3, .int (iI ((e : Int))), .int (iI ((k : Int)))])), cL G a1 24 (zrw b), cI G a2 37 W, cI G a3 5 S]) [0, 1, 2, 3, 4] rfl rfl rfl (by decide) ?_
      refine z_iconst (pc := 62) C dX1_tellBit_62 ?_
      refine z_icmp_ne (tgt := 69) (pc := 63) C dX1_tellBit_63 (by decide) ⟨by omega, by omega⟩ (by decide) (fun c63 => ?_) (fun c63 => ?_)
      · refine z_iload (pc := 69) C dX1_tellBit_69 0 rfl ?_
        refine z_iconst (pc := 71) C dX1_tellBit_71 ?_
        refine z_icmp_lt (tgt := 79) (pc := 72) C dX1_tellBit_72 (by decide) ⟨by omega, by omega⟩ (by decide) (fun c72 => ?_) (fun c72 => ?_)
        · refine z_iconst (pc := 79) C dX1_tellBit_79 ?_
          refine z_topi (y := (((zvo b (S 4) f r) : Nat) : Int)) (by unfold zvo; rw [if_neg c63, if_neg (by omega)]; rfl) ?_
          exact z_iret (pc := 80) C R0 dX1_tellBit_80 (⟨rfl, rfl⟩)
        · refine z_iconst (pc := 75) C dX1_tellBit_75 ?_
          refine z_goto (tgt := 80) (pc := 76) C dX1_tellBit_76 (by decide) ?_
          refine z_topi (y := (((zvo b (S 4) f r) : Nat) : Int)) (by unfold zvo; rw [if_neg c63, if_pos (by omega)]; rfl) ?_
          exact z_iret (pc := 80) C R0 dX1_tellBit_80 (⟨rfl, rfl⟩)
      · refine z_iload (pc := 66) C dX1_tellBit_66 1 rfl ?_
        refine z_topi (y := (((zvo b (S 4) f r) : Nat) : Int)) (by unfold zvo; rw [if_pos c63]) ?_
        exact z_iret (pc := 68) C R0 dX1_tellBit_68 (⟨rfl, rfl⟩)
    · refine z_aload_n (pc := 47) C dX1_tellBit_47 2 rfl ?_
      refine z_dup (pc := 48) C dX1_tellBit_48 rfl ?_
      refine z_get (pc := 49) C dX1_tellBit_49 zCl1 ffX1_tellBit_51 0 rfl rfl ?_
      refine z_iconst (pc := 52) C dX1_tellBit_52 ?_
      refine z_iadd (pc := 53) C dX1_tellBit_53 ?_
      refine z_put (ty := .int) (ws' := [(q, .inr (1, [.ref na, .int (iI ((c : Int))), .int (iI ((fs : Int))), .int (iI (((db : Int) + 1)))])), (h, .inr (2, [.ref a1, .ref a2, .ref a3, .int (iI ((e : Int))), .int (iI ((k : Int)))])), cL G a1 24 (zrw b), cI G a2 37 W, cI G a3 5 S]) (pc := 54) C dX1_tellBit_54 zCl1 ffX1_tellBit_51 0 rfl rfl rfl rfl rfl (Nat.le_of_ble_eq_true rfl) rfl ?_
      refine z_ws (ws' := [(q, .inr (1, [.ref na, .int (iI ((c : Int))), .int (iI ((fs : Int))), .int (iI ((((db + zdo b f r) : Nat) : Int)))])), (h, .inr (2, [.ref a1, .ref a2, .ref a3, .int (iI ((e : Int))), .int (iI ((k : Int)))])), cL G a1 24 (zrw b), cI G a2 37 W, cI G a3 5 S]) [0, 1, 2, 3, 4] (by rw [show zdo b f r = 1 by unfold zdo; first | rw [if_pos (by omega)] | rw [if_neg (by omega)]]; rfl) (by decide) ?_
      refine z_aload_n (pc := 57) C dX1_tellBit_57 3 rfl ?_
      refine z_iconst (pc := 58) C dX1_tellBit_58 ?_
      refine z_callV (As := [.int (iI 4)]) (rest := []) (wc := [(h, .inr (2, [.ref a1, .ref a2, .ref a3, .int (iI ((e : Int))), .int (iI ((k : Int)))])), cL G a1 24 (zrw b), cI G a2 37 W, cI G a3 5 S]) (wr := [(q, .inr (1, [.ref na, .int (iI ((c : Int))), .int (iI ((fs : Int))), .int (iI ((((db + zdo b f r) : Nat) : Int)))]))]) (fs := [.ref a1, .ref a2, .ref a3, .int (iI ((e : Int))), .int (iI ((k : Int)))]) (pc := 59) C dX1_tellBit_59 (k_X2_setting l G h a1 a2 a3 b W S e k hI 4 4 rfl (by decide)) gX1_tellBit_X2_setting ⟨⟨_, rfl⟩, ⟨rfl, rfl⟩, nyX2_setting, ⟨Nat.le_of_ble_eq_true rfl, Nat.le_of_ble_eq_true rfl⟩⟩ rfl zCl2 rfl (fun h => h) rfl (Nat.le_of_ble_eq_true rfl) [1, 2, 3, 4] [0] rfl rfl (by decide) (by decide) (by decide) ⟨Nat.le_of_ble_eq_true rfl, Nat.le_of_ble_eq_true rfl⟩ (fun v w hk => ?_)
      obtain ⟨rfl, rfl⟩ := hk
      refine z_fix (pc2 := 62) (st2 := [.int (iI ((S 4)))]) (ws' := [(q, .inr (1, [.ref na, .int (iI ((c : Int))), .int (iI ((fs : Int))), .int (iI ((((db + zdo b f r) : Nat) : Int)))])), (h, .inr (2, [.ref a1, .ref a2, .ref a3, .int (iI ((e : Int))), .int (iI ((k : Int)))])), cL G a1 24 (zrw b), cI G a2 37 W, cI G a3 5 S]) [0, 1, 2, 3, 4] rfl rfl rfl (by decide) ?_
      refine z_iconst (pc := 62) C dX1_tellBit_62 ?_
      refine z_icmp_ne (tgt := 69) (pc := 63) C dX1_tellBit_63 (by decide) ⟨by omega, by omega⟩ (by decide) (fun c63 => ?_) (fun c63 => ?_)
      · refine z_iload (pc := 69) C dX1_tellBit_69 0 rfl ?_
        refine z_iconst (pc := 71) C dX1_tellBit_71 ?_
        refine z_icmp_lt (tgt := 79) (pc := 72) C dX1_tellBit_72 (by decide) ⟨by omega, by omega⟩ (by decide) (fun c72 => ?_) (fun c72 => ?_)
        · refine z_iconst (pc := 79) C dX1_tellBit_79 ?_
          refine z_topi (y := (((zvo b (S 4) f r) : Nat) : Int)) (by unfold zvo; rw [if_neg c63, if_neg (by omega)]; rfl) ?_
          exact z_iret (pc := 80) C R0 dX1_tellBit_80 (⟨rfl, rfl⟩)
        · refine z_iconst (pc := 75) C dX1_tellBit_75 ?_
          refine z_goto (tgt := 80) (pc := 76) C dX1_tellBit_76 (by decide) ?_
          refine z_topi (y := (((zvo b (S 4) f r) : Nat) : Int)) (by unfold zvo; rw [if_neg c63, if_pos (by omega)]; rfl) ?_
          exact z_iret (pc := 80) C R0 dX1_tellBit_80 (⟨rfl, rfl⟩)
      · refine z_iload (pc := 66) C dX1_tellBit_66 1 rfl ?_
        refine z_topi (y := (((zvo b (S 4) f r) : Nat) : Int)) (by unfold zvo; rw [if_pos c63]) ?_
        exact z_iret (pc := 68) C R0 dX1_tellBit_68 (⟨rfl, rfl⟩)

theorem ffX1_add_16 : zFF wsX1_add RX1 16 RX1 TX1 4 1 := ⟨by decide +kernel, by decide, by decide +kernel⟩
theorem ffX1_add_13 : zFF wsX1_add RX1 13 RX1 TX1 4 0 := ⟨by decide +kernel, by decide, by decide +kernel⟩
theorem ffX1_add_51 : zFF wsX1_add RX1 51 RX1 TX1 4 3 := ⟨by decide +kernel, by decide, by decide +kernel⟩
set_option maxHeartbeats 4000000 in
set_option maxRecDepth 100000 in
theorem k_X1_add (l : Launch) (G : ZG) (q na n0 n1 n2 n3 n4 : Nat) (N0 N1 N2 N3 N4 : Nat → Int) (c fs db : Nat) (kd : Int) (wd bg la : Nat) (hc : c < 39) : Kt l G yX1_add wsX1_add { frames := 0, cells := 0, slots := 0, locals := 0 } 0 0 False [.ref q, .int (iI kd), .int (iI ((wd : Int))), .int (iI ((bg : Int))), .int (iI ((la : Int)))] [(q, .inr (1, [.ref na, .int (iI ((c : Int))), .int (iI ((fs : Int))), .int (iI ((db : Int)))])), cM G na 5 (zna n0 n1 n2 n3 n4), cI G n0 39 N0, cI G n1 39 N1, cI G n2 39 N2, cI G n3 39 N3, cI G n4 39 N4] (fun v9 w9 => v9 = none ∧ w9 = [(q, .inr (1, [.ref na, .int (iI ((((c + 1) : Nat) : Int))), .int (iI ((fs : Int))), .int (iI ((db : Int)))])), cM G na 5 (zna n0 n1 n2 n3 n4), cI G n0 39 (zU N0 c kd), cI G n1 39 (zU N1 c (wd : Int)), cI G n2 39 (zU N2 c (bg : Int)), cI G n3 39 (zU N3 c (db : Int)), cI G n4 39 (zU N4 c (la : Int))]) := by
  refine Kt.of (cc := cX1_add) (nL := 5) (ret := none) (own := RX1) rfl (by decide +kernel) rfl (Nat.le_of_ble_eq_true rfl) ?_
  intro X Y C R0 hin
  show Z l X G Y 5 0 0 0 [(0, .ref q), (1, .int (iI kd)), (2, .int (iI ((wd : Int)))), (3, .int (iI ((bg : Int)))), (4, .int (iI ((la : Int))))] [] [(q, .inr (1, [.ref na, .int (iI ((c : Int))), .int (iI ((fs : Int))), .int (iI ((db : Int)))])), cM G na 5 (zna n0 n1 n2 n3 n4), cI G n0 39 N0, cI G n1 39 N1, cI G n2 39 N2, cI G n3 39 N3, cI G n4 39 N4]
  refine z_aload_n (pc := 0) C dX1_add_0 0 rfl ?_
  refine z_get (pc := 1) C dX1_add_1 zCl1 ffX1_add_16 0 rfl rfl ?_
  refine z_bipush (pc := 4) C dX1_add_4 (by decide +kernel) ?_
  refine z_icmp_ge (tgt := 83) (pc := 6) C dX1_add_6 (by decide) ⟨by omega, by omega⟩ (by decide) (fun c6 => ?_) (fun c6 => ?_)
  · exfalso; omega
  · refine z_aload_n (pc := 9) C dX1_add_9 0 rfl ?_
    refine z_get (pc := 10) C dX1_add_10 zCl1 ffX1_add_13 0 rfl rfl ?_
    refine z_iconst (pc := 13) C dX1_add_13 ?_
    refine z_mald (pc := 14) C dX1_add_14 1 rfl (0) (rfl) (by omega) (by decide) rfl ?_
    refine z_aload_n (pc := 15) C dX1_add_15 0 rfl ?_
    refine z_get (pc := 16) C dX1_add_16 zCl1 ffX1_add_16 0 rfl rfl ?_
    refine z_iload_n (pc := 19) C dX1_add_19 1 rfl ?_
    refine z_iast (ws' := [(q, .inr (1, [.ref na, .int (iI ((c : Int))), .int (iI ((fs : Int))), .int (iI ((db : Int)))])), cM G na 5 (zna n0 n1 n2 n3 n4), cI G n0 39 (zU N0 c kd), cI G n1 39 N1, cI G n2 39 N2, cI G n3 39 N3, cI G n4 39 N4]) (pc := 20) C dX1_add_20 2 rfl (c) (by omega) (by omega) (by decide) rfl ?_
    refine z_aload_n (pc := 21) C dX1_add_21 0 rfl ?_
    refine z_get (pc := 22) C dX1_add_22 zCl1 ffX1_add_13 0 rfl rfl ?_
    refine z_iconst (pc := 25) C dX1_add_25 ?_
    refine z_mald (pc := 26) C dX1_add_26 1 rfl (1) (rfl) (by omega) (by decide) rfl ?_
    refine z_aload_n (pc := 27) C dX1_add_27 0 rfl ?_
    refine z_get (pc := 28) C dX1_add_28 zCl1 ffX1_add_16 0 rfl rfl ?_
    refine z_iload_n (pc := 31) C dX1_add_31 2 rfl ?_
    refine z_iast (ws' := [(q, .inr (1, [.ref na, .int (iI ((c : Int))), .int (iI ((fs : Int))), .int (iI ((db : Int)))])), cM G na 5 (zna n0 n1 n2 n3 n4), cI G n0 39 (zU N0 c kd), cI G n1 39 (zU N1 c (wd : Int)), cI G n2 39 N2, cI G n3 39 N3, cI G n4 39 N4]) (pc := 32) C dX1_add_32 3 rfl (c) (by omega) (by omega) (by decide) rfl ?_
    refine z_aload_n (pc := 33) C dX1_add_33 0 rfl ?_
    refine z_get (pc := 34) C dX1_add_34 zCl1 ffX1_add_13 0 rfl rfl ?_
    refine z_iconst (pc := 37) C dX1_add_37 ?_
    refine z_mald (pc := 38) C dX1_add_38 1 rfl (2) (rfl) (by omega) (by decide) rfl ?_
    refine z_aload_n (pc := 39) C dX1_add_39 0 rfl ?_
    refine z_get (pc := 40) C dX1_add_40 zCl1 ffX1_add_16 0 rfl rfl ?_
    refine z_iload_n (pc := 43) C dX1_add_43 3 rfl ?_
    refine z_iast (ws' := [(q, .inr (1, [.ref na, .int (iI ((c : Int))), .int (iI ((fs : Int))), .int (iI ((db : Int)))])), cM G na 5 (zna n0 n1 n2 n3 n4), cI G n0 39 (zU N0 c kd), cI G n1 39 (zU N1 c (wd : Int)), cI G n2 39 (zU N2 c (bg : Int)), cI G n3 39 N3, cI G n4 39 N4]) (pc := 44) C dX1_add_44 4 rfl (c) (by omega) (by omega) (by decide) rfl ?_
    refine z_aload_n (pc := 45) C dX1_add_45 0 rfl ?_
    refine z_get (pc := 46) C dX1_add_46 zCl1 ffX1_add_13 0 rfl rfl ?_
    refine z_iconst (pc := 49) C dX1_add_49 ?_
    refine z_mald (pc := 50) C dX1_add_50 1 rfl (3) (rfl) (by omega) (by decide) rfl ?_
    refine z_aload_n (pc := 51) C dX1_add_51 0 rfl ?_
    refine z_get (pc := 52) C dX1_add_52 zCl1 ffX1_add_16 0 rfl rfl ?_
    refine z_aload_n (pc := 55) C dX1_add_55 0 rfl ?_
    refine z_get (pc := 56) C dX1_add_56 zCl1 ffX1_add_51 0 rfl rfl ?_
    refine z_iast (ws' := [(q, .inr (1, [.ref na, .int (iI ((c : Int))), .int (iI ((fs : Int))), .int (iI ((db : Int)))])), cM G na 5 (zna n0 n1 n2 n3 n4), cI G n0 39 (zU N0 c kd), cI G n1 39 (zU N1 c (wd : Int)), cI G n2 39 (zU N2 c (bg : Int)), cI G n3 39 (zU N3 c (db : Int)), cI G n4 39 N4]) (pc := 59) C dX1_add_59 5 rfl (c) (by omega) (by omega) (by decide) rfl ?_
    refine z_aload_n (pc := 60) C dX1_add_60 0 rfl ?_
    refine z_get (pc := 61) C dX1_add_61 zCl1 ffX1_add_13 0 rfl rfl ?_
    refine z_iconst (pc := 64) C dX1_add_64 ?_
    refine z_mald (pc := 65) C dX1_add_65 1 rfl (4) (rfl) (by omega) (by decide) rfl ?_
    refine z_aload_n (pc := 66) C dX1_add_66 0 rfl ?_
    refine z_get (pc := 67) C dX1_add_67 zCl1 ffX1_add_16 0 rfl rfl ?_
    refine z_iload (pc := 70) C dX1_add_70 4 rfl ?_
    refine z_iast (ws' := [(q, .inr (1, [.ref na, .int (iI ((c : Int))), .int (iI ((fs : Int))), .int (iI ((db : Int)))])), cM G na 5 (zna n0 n1 n2 n3 n4), cI G n0 39 (zU N0 c kd), cI G n1 39 (zU N1 c (wd : Int)), cI G n2 39 (zU N2 c (bg : Int)), cI G n3 39 (zU N3 c (db : Int)), cI G n4 39 (zU N4 c (la : Int))]) (pc := 72) C dX1_add_72 6 rfl (c) (by omega) (by omega) (by decide) rfl ?_
    refine z_aload_n (pc := 73) C dX1_add_73 0 rfl ?_
    refine z_dup (pc := 74) C dX1_add_74 rfl ?_
    refine z_get (pc := 75) C dX1_add_75 zCl1 ffX1_add_16 0 rfl rfl ?_
    refine z_iconst (pc := 78) C dX1_add_78 ?_
    refine z_iadd (pc := 79) C dX1_add_79 ?_
    refine z_put (ty := .int) (ws' := [(q, .inr (1, [.ref na, .int (iI (((c : Int) + 1))), .int (iI ((fs : Int))), .int (iI ((db : Int)))])), cM G na 5 (zna n0 n1 n2 n3 n4), cI G n0 39 (zU N0 c kd), cI G n1 39 (zU N1 c (wd : Int)), cI G n2 39 (zU N2 c (bg : Int)), cI G n3 39 (zU N3 c (db : Int)), cI G n4 39 (zU N4 c (la : Int))]) (pc := 80) C dX1_add_80 zCl1 ffX1_add_16 0 rfl rfl rfl rfl rfl (Nat.le_of_ble_eq_true rfl) rfl ?_
    exact z_vret (pc := 83) C R0 dX1_add_83 (⟨rfl, rfl⟩)

theorem ffX1_count_16 : zFF wsX1_count RX1 16 RX1 TX1 4 1 := ⟨by decide +kernel, by decide, by decide +kernel⟩
set_option maxHeartbeats 4000000 in
set_option maxRecDepth 100000 in
theorem k_X1_count (l : Launch) (G : ZG) (q na n0 n1 n2 n3 n4 : Nat) (N0 N1 N2 N3 N4 : Nat → Int) (c fs db : Nat) : Kt l G yX1_count wsX1_count { frames := 0, cells := 0, slots := 0, locals := 0 } 0 0 False [.ref q] [(q, .inr (1, [.ref na, .int (iI ((c : Int))), .int (iI ((fs : Int))), .int (iI ((db : Int)))])), cM G na 5 (zna n0 n1 n2 n3 n4), cI G n0 39 N0, cI G n1 39 N1, cI G n2 39 N2, cI G n3 39 N3, cI G n4 39 N4] (fun v9 w9 => v9 = some (.int (iI ((c : Int)))) ∧ w9 = [(q, .inr (1, [.ref na, .int (iI ((c : Int))), .int (iI ((fs : Int))), .int (iI ((db : Int)))])), cM G na 5 (zna n0 n1 n2 n3 n4), cI G n0 39 N0, cI G n1 39 N1, cI G n2 39 N2, cI G n3 39 N3, cI G n4 39 N4]) := by
  refine Kt.of (cc := cX1_count) (nL := 1) (ret := (some .int)) (own := RX1) rfl (by decide +kernel) rfl (Nat.le_of_ble_eq_true rfl) ?_
  intro X Y C R0 hin
  show Z l X G Y 1 0 0 0 [(0, .ref q)] [] [(q, .inr (1, [.ref na, .int (iI ((c : Int))), .int (iI ((fs : Int))), .int (iI ((db : Int)))])), cM G na 5 (zna n0 n1 n2 n3 n4), cI G n0 39 N0, cI G n1 39 N1, cI G n2 39 N2, cI G n3 39 N3, cI G n4 39 N4]
  refine z_aload_n (pc := 0) C dX1_count_0 0 rfl ?_
  refine z_get (pc := 1) C dX1_count_1 zCl1 ffX1_count_16 0 rfl rfl ?_
  exact z_iret (pc := 4) C R0 dX1_count_4 (⟨rfl, rfl⟩)

theorem ffX1_falseStarts_20 : zFF wsX1_falseStarts RX1 20 RX1 TX1 4 2 := ⟨by decide +kernel, by decide, by decide +kernel⟩
set_option maxHeartbeats 4000000 in
set_option maxRecDepth 100000 in
theorem k_X1_falseStarts (l : Launch) (G : ZG) (q na n0 n1 n2 n3 n4 : Nat) (N0 N1 N2 N3 N4 : Nat → Int) (c fs db : Nat) : Kt l G yX1_falseStarts wsX1_falseStarts { frames := 0, cells := 0, slots := 0, locals := 0 } 0 0 False [.ref q] [(q, .inr (1, [.ref na, .int (iI ((c : Int))), .int (iI ((fs : Int))), .int (iI ((db : Int)))])), cM G na 5 (zna n0 n1 n2 n3 n4), cI G n0 39 N0, cI G n1 39 N1, cI G n2 39 N2, cI G n3 39 N3, cI G n4 39 N4] (fun v9 w9 => v9 = some (.int (iI ((fs : Int)))) ∧ w9 = [(q, .inr (1, [.ref na, .int (iI ((c : Int))), .int (iI ((fs : Int))), .int (iI ((db : Int)))])), cM G na 5 (zna n0 n1 n2 n3 n4), cI G n0 39 N0, cI G n1 39 N1, cI G n2 39 N2, cI G n3 39 N3, cI G n4 39 N4]) := by
  refine Kt.of (cc := cX1_falseStarts) (nL := 1) (ret := (some .int)) (own := RX1) rfl (by decide +kernel) rfl (Nat.le_of_ble_eq_true rfl) ?_
  intro X Y C R0 hin
  show Z l X G Y 1 0 0 0 [(0, .ref q)] [] [(q, .inr (1, [.ref na, .int (iI ((c : Int))), .int (iI ((fs : Int))), .int (iI ((db : Int)))])), cM G na 5 (zna n0 n1 n2 n3 n4), cI G n0 39 N0, cI G n1 39 N1, cI G n2 39 N2, cI G n3 39 N3, cI G n4 39 N4]
  refine z_aload_n (pc := 0) C dX1_falseStarts_0 0 rfl ?_
  refine z_get (pc := 1) C dX1_falseStarts_1 zCl1 ffX1_falseStarts_20 0 rfl rfl ?_
  exact z_iret (pc := 4) C R0 dX1_falseStarts_4 (⟨rfl, rfl⟩)

theorem ffX1_note_16 : zFF wsX1_note RX1 16 RX1 TX1 4 1 := ⟨by decide +kernel, by decide, by decide +kernel⟩
theorem ffX1_note_13 : zFF wsX1_note RX1 13 RX1 TX1 4 0 := ⟨by decide +kernel, by decide, by decide +kernel⟩
set_option maxHeartbeats 4000000 in
set_option maxRecDepth 100000 in
theorem k_X1_note (l : Launch) (G : ZG) (q na n0 n1 n2 n3 n4 : Nat) (N0 N1 N2 N3 N4 : Nat → Int) (c fs db : Nat) (L : List ZIt) (hL : zho N0 N1 N2 N3 N4 L) (hc : c = L.length) (hc39 : c ≤ 39) (z w : Int) (wn : Nat) (hz : iR z) (hw : w = (wn : Int)) (hwn : wn < 5) : Kt l G yX1_note wsX1_note { frames := 0, cells := 0, slots := 0, locals := 0 } 0 0 False [.ref q, .int (iI z), .int (iI w)] [(q, .inr (1, [.ref na, .int (iI ((c : Int))), .int (iI ((fs : Int))), .int (iI ((db : Int)))])), cM G na 5 (zna n0 n1 n2 n3 n4), cI G n0 39 N0, cI G n1 39 N1, cI G n2 39 N2, cI G n3 39 N3, cI G n4 39 N4] (fun v9 w9 => v9 = some (.int (iI ((zno L z wn)))) ∧ w9 = [(q, .inr (1, [.ref na, .int (iI ((c : Int))), .int (iI ((fs : Int))), .int (iI ((db : Int)))])), cM G na 5 (zna n0 n1 n2 n3 n4), cI G n0 39 N0, cI G n1 39 N1, cI G n2 39 N2, cI G n3 39 N3, cI G n4 39 N4]) := by
  refine Kt.of (cc := cX1_note) (nL := 3) (ret := (some .int)) (own := RX1) rfl (by decide +kernel) rfl (Nat.le_of_ble_eq_true rfl) ?_
  intro X Y C R0 hin
  show Z l X G Y 3 0 0 0 [(0, .ref q), (1, .int (iI z)), (2, .int (iI w))] [] [(q, .inr (1, [.ref na, .int (iI ((c : Int))), .int (iI ((fs : Int))), .int (iI ((db : Int)))])), cM G na 5 (zna n0 n1 n2 n3 n4), cI G n0 39 N0, cI G n1 39 N1, cI G n2 39 N2, cI G n3 39 N3, cI G n4 39 N4]
  refine z_iload_n (pc := 0) C dX1_note_0 1 rfl ?_
  refine z_if_lt (tgt := 21) (pc := 1) C dX1_note_1 (by decide) ⟨by omega, by omega⟩ (fun c1 => ?_) (fun c1 => ?_)
  · refine z_bipush (pc := 21) C dX1_note_21 (by decide +kernel) ?_
    refine z_topi (y := (zno L z wn)) ((zno_none (Or.inl c1)).symm) ?_
    exact z_iret (pc := 23) C R0 dX1_note_23 (⟨rfl, rfl⟩)
  · refine z_iload_n (pc := 4) C dX1_note_4 1 rfl ?_
    refine z_aload_n (pc := 5) C dX1_note_5 0 rfl ?_
    refine z_get (pc := 6) C dX1_note_6 zCl1 ffX1_note_16 0 rfl rfl ?_
    refine z_icmp_ge (tgt := 21) (pc := 9) C dX1_note_9 (by decide) ⟨by omega, by omega⟩ ⟨by omega, by omega⟩ (fun c9 => ?_) (fun c9 => ?_)
    · refine z_bipush (pc := 21) C dX1_note_21 (by decide +kernel) ?_
      refine z_topi (y := (zno L z wn)) ((zno_none (Or.inr (by omega))).symm) ?_
      exact z_iret (pc := 23) C R0 dX1_note_23 (⟨rfl, rfl⟩)
    · refine z_iload_n (pc := 12) C dX1_note_12 2 rfl ?_
      refine z_if_lt (tgt := 21) (pc := 13) C dX1_note_13 (by decide) ⟨by omega, by omega⟩ (fun c13 => ?_) (fun c13 => ?_)
      · exfalso; omega
      · refine z_iload_n (pc := 16) C dX1_note_16 2 rfl ?_
        refine z_iconst (pc := 17) C dX1_note_17 ?_
        refine z_icmp_lt (tgt := 24) (pc := 18) C dX1_note_18 (by decide) ⟨by omega, by omega⟩ (by decide) (fun c18 => ?_) (fun c18 => ?_)
        · rcases (show wn = 0 ∨ wn = 1 ∨ wn = 2 ∨ wn = 3 ∨ wn = 4 by omega) with hq | hq | hq | hq | hq
          all_goals subst hq
          · have hno := zno_r (z := z) hL (by omega) (by omega)
            refine z_aload_n (pc := 24) C dX1_note_24 0 rfl ?_
            refine z_get (pc := 25) C dX1_note_25 zCl1 ffX1_note_13 0 rfl rfl ?_
            refine z_iload_n (pc := 28) C dX1_note_28 2 rfl ?_
            refine z_mald (pc := 29) C dX1_note_29 1 rfl (0) (hw) (by omega) (by decide) rfl ?_
            refine z_iload_n (pc := 30) C dX1_note_30 1 rfl ?_
            refine z_iald (pc := 31) C dX1_note_31 2 rfl (z.toNat) (by omega) (by omega) (by decide) ?_
            refine z_topi (y := (zno L z 0)) (hno.1) ?_
            exact z_iret (pc := 32) C R0 dX1_note_32 (⟨rfl, rfl⟩)
          · have hno := zno_r (z := z) hL (by omega) (by omega)
            refine z_aload_n (pc := 24) C dX1_note_24 0 rfl ?_
            refine z_get (pc := 25) C dX1_note_25 zCl1 ffX1_note_13 0 rfl rfl ?_
            refine z_iload_n (pc := 28) C dX1_note_28 2 rfl ?_
            refine z_mald (pc := 29) C dX1_note_29 1 rfl (1) (hw) (by omega) (by decide) rfl ?_
            refine z_iload_n (pc := 30) C dX1_note_30 1 rfl ?_
            refine z_iald (pc := 31) C dX1_note_31 3 rfl (z.toNat) (by omega) (by omega) (by decide) ?_
            refine z_topi (y := (zno L z 1)) (hno.2.1) ?_
            exact z_iret (pc := 32) C R0 dX1_note_32 (⟨rfl, rfl⟩)
          · have hno := zno_r (z := z) hL (by omega) (by omega)
            refine z_aload_n (pc := 24) C dX1_note_24 0 rfl ?_
            refine z_get (pc := 25) C dX1_note_25 zCl1 ffX1_note_13 0 rfl rfl ?_
            refine z_iload_n (pc := 28) C dX1_note_28 2 rfl ?_
            refine z_mald (pc := 29) C dX1_note_29 1 rfl (2) (hw) (by omega) (by decide) rfl ?_
            refine z_iload_n (pc := 30) C dX1_note_30 1 rfl ?_
            refine z_iald (pc := 31) C dX1_note_31 4 rfl (z.toNat) (by omega) (by omega) (by decide) ?_
            refine z_topi (y := (zno L z 2)) (hno.2.2.1) ?_
            exact z_iret (pc := 32) C R0 dX1_note_32 (⟨rfl, rfl⟩)
          · have hno := zno_r (z := z) hL (by omega) (by omega)
            refine z_aload_n (pc := 24) C dX1_note_24 0 rfl ?_
            refine z_get (pc := 25) C dX1_note_25 zCl1 ffX1_note_13 0 rfl rfl ?_
            refine z_iload_n (pc := 28) C dX1_note_28 2 rfl ?_
            refine z_mald (pc := 29) C dX1_note_29 1 rfl (3) (hw) (by omega) (by decide) rfl ?_
            refine z_iload_n (pc := 30) C dX1_note_30 1 rfl ?_
            refine z_iald (pc := 31) C dX1_note_31 5 rfl (z.toNat) (by omega) (by omega) (by decide) ?_
            refine z_topi (y := (zno L z 3)) (hno.2.2.2.1) ?_
            exact z_iret (pc := 32) C R0 dX1_note_32 (⟨rfl, rfl⟩)
          · have hno := zno_r (z := z) hL (by omega) (by omega)
            refine z_aload_n (pc := 24) C dX1_note_24 0 rfl ?_
            refine z_get (pc := 25) C dX1_note_25 zCl1 ffX1_note_13 0 rfl rfl ?_
            refine z_iload_n (pc := 28) C dX1_note_28 2 rfl ?_
            refine z_mald (pc := 29) C dX1_note_29 1 rfl (4) (hw) (by omega) (by decide) rfl ?_
            refine z_iload_n (pc := 30) C dX1_note_30 1 rfl ?_
            refine z_iald (pc := 31) C dX1_note_31 6 rfl (z.toNat) (by omega) (by omega) (by decide) ?_
            refine z_topi (y := (zno L z 4)) (hno.2.2.2.2) ?_
            exact z_iret (pc := 32) C R0 dX1_note_32 (⟨rfl, rfl⟩)
        · exfalso; omega

theorem nyX1_note : yX1_note.cls ≠ "java/lang/invoke/MethodHandle" ∧ yX1_note.cls ≠ "java/lang/invoke/VarHandle" ∧ (parseMethodDescriptor yX1_note.desc).map (fun d => d.parameters.length) = some 2 := by decide +kernel
set_option maxHeartbeats 4000000 in
set_option maxRecDepth 100000 in
theorem k_X1_isGoodWord (l : Launch) (G : ZG) (q na n0 n1 n2 n3 n4 : Nat) (N0 N1 N2 N3 N4 : Nat → Int) (c fs db : Nat) (L : List ZIt) (hL : zho N0 N1 N2 N3 N4 L) (hc : c = L.length) (hc39 : c ≤ 39) (i : Nat) (it : ZIt) (x : Int) (hit : L[i]? = some it) (hB : zItB it) (hx : iR x) : Kt l G yX1_isGoodWord wsX1_isGoodWord { frames := 1, cells := 0, slots := 0, locals := 22 } 0 0 False [.ref q, .int (iI ((i : Int))), .int (iI x)] [(q, .inr (1, [.ref na, .int (iI ((c : Int))), .int (iI ((fs : Int))), .int (iI ((db : Int)))])), cM G na 5 (zna n0 n1 n2 n3 n4), cI G n0 39 N0, cI G n1 39 N1, cI G n2 39 N2, cI G n3 39 N3, cI G n4 39 N4] (fun v9 w9 => ∃ (r : Int), ((r = 1 ∧ zgood x it = true) ∨ (r = 0 ∧ zgood x it = false)) ∧ v9 = some (.int (iI r)) ∧ w9 = [(q, .inr (1, [.ref na, .int (iI ((c : Int))), .int (iI ((fs : Int))), .int (iI ((db : Int)))])), cM G na 5 (zna n0 n1 n2 n3 n4), cI G n0 39 N0, cI G n1 39 N1, cI G n2 39 N2, cI G n3 39 N3, cI G n4 39 N4]) := by
  refine Kt.of (cc := cX1_isGoodWord) (nL := 3) (ret := (some .boolean)) (own := RX1) rfl (by decide +kernel) rfl (Nat.le_of_ble_eq_true rfl) ?_
  intro X Y C R0 hin
  show Z l X G Y 3 0 0 0 [(0, .ref q), (1, .int (iI ((i : Int)))), (2, .int (iI x))] [] [(q, .inr (1, [.ref na, .int (iI ((c : Int))), .int (iI ((fs : Int))), .int (iI ((db : Int)))])), cM G na 5 (zna n0 n1 n2 n3 n4), cI G n0 39 N0, cI G n1 39 N1, cI G n2 39 N2, cI G n3 39 N3, cI G n4 39 N4]
  have hlt : i < L.length := (List.getElem?_eq_some_iff.mp hit).1
  obtain ⟨hb0, hb1, hb2, hb3, hb4⟩ := id hB
  refine z_aload_n (pc := 0) C dX1_isGoodWord_0 0 rfl ?_
  refine z_iload_n (pc := 1) C dX1_isGoodWord_1 1 rfl ?_
  refine z_iconst (pc := 2) C dX1_isGoodWord_2 ?_
  refine z_callV (As := [.int (iI ((i : Int))), .int (iI 0)]) (rest := []) (wc := [(q, .inr (1, [.ref na, .int (iI ((c : Int))), .int (iI ((fs : Int))), .int (iI ((db : Int)))])), cM G na 5 (zna n0 n1 n2 n3 n4), cI G n0 39 N0, cI G n1 39 N1, cI G n2 39 N2, cI G n3 39 N3, cI G n4 39 N4]) (wr := []) (fs := [.ref na, .int (iI ((c : Int))), .int (iI ((fs : Int))), .int (iI ((db : Int)))]) (pc := 3) C dX1_isGoodWord_3 (k_X1_note l G q na n0 n1 n2 n3 n4 N0 N1 N2 N3 N4 c fs db L hL hc hc39 (i : Int) 0 0 ⟨by omega, by omega⟩ rfl (by decide)) gX1_isGoodWord_X1_note ⟨⟨_, rfl⟩, ⟨rfl, rfl⟩, nyX1_note, ⟨Nat.le_of_ble_eq_true rfl, Nat.le_of_ble_eq_true rfl⟩⟩ rfl zCl1 rfl (fun h => h) rfl (Nat.le_of_ble_eq_true rfl) [0, 1, 2, 3, 4, 5, 6] [] rfl rfl (by decide) (by decide) (by decide) ⟨Nat.le_of_ble_eq_true rfl, Nat.le_of_ble_eq_true rfl⟩ (fun v w hk => ?_)
  obtain ⟨rfl, rfl⟩ := hk
  refine z_fix (pc2 := 6) (st2 := [.int (iI ((zno L (i : Int) 0)))]) (ws' := [(q, .inr (1, [.ref na, .int (iI ((c : Int))), .int (iI ((fs : Int))), .int (iI ((db : Int)))])), cM G na 5 (zna n0 n1 n2 n3 n4), cI G n0 39 N0, cI G n1 39 N1, cI G n2 39 N2, cI G n3 39 N3, cI G n4 39 N4]) [0, 1, 2, 3, 4, 5, 6] rfl rfl rfl (by decide) ?_
  refine z_topi (y := it.1) ((zno_at hit).trans rfl) ?_
  refine z_if_ne (tgt := 23) (pc := 6) C dX1_isGoodWord_6 (by decide) ⟨by omega, by omega⟩ (fun c6 => ?_) (fun c6 => ?_)
  · refine z_iconst (pc := 23) C dX1_isGoodWord_23 ?_
    exact z_zret (pc := 24) C R0 (by decide) dX1_isGoodWord_24 (⟨0, Or.inr ⟨rfl, decide_eq_false (fun h => c6 h.1)⟩, rfl, rfl⟩)
  · refine z_aload_n (pc := 9) C dX1_isGoodWord_9 0 rfl ?_
    refine z_iload_n (pc := 10) C dX1_isGoodWord_10 1 rfl ?_
    refine z_iconst (pc := 11) C dX1_isGoodWord_11 ?_
    refine z_callV (As := [.int (iI ((i : Int))), .int (iI 1)]) (rest := []) (wc := [(q, .inr (1, [.ref na, .int (iI ((c : Int))), .int (iI ((fs : Int))), .int (iI ((db : Int)))])), cM G na 5 (zna n0 n1 n2 n3 n4), cI G n0 39 N0, cI G n1 39 N1, cI G n2 39 N2, cI G n3 39 N3, cI G n4 39 N4]) (wr := []) (fs := [.ref na, .int (iI ((c : Int))), .int (iI ((fs : Int))), .int (iI ((db : Int)))]) (pc := 12) C dX1_isGoodWord_12 (k_X1_note l G q na n0 n1 n2 n3 n4 N0 N1 N2 N3 N4 c fs db L hL hc hc39 (i : Int) 1 1 ⟨by omega, by omega⟩ rfl (by decide)) gX1_isGoodWord_X1_note ⟨⟨_, rfl⟩, ⟨rfl, rfl⟩, nyX1_note, ⟨Nat.le_of_ble_eq_true rfl, Nat.le_of_ble_eq_true rfl⟩⟩ rfl zCl1 rfl (fun h => h) rfl (Nat.le_of_ble_eq_true rfl) [0, 1, 2, 3, 4, 5, 6] [] rfl rfl (by decide) (by decide) (by decide) ⟨Nat.le_of_ble_eq_true rfl, Nat.le_of_ble_eq_true rfl⟩ (fun v w hk => ?_)
    obtain ⟨rfl, rfl⟩ := hk
    refine z_fix (pc2 := 15) (st2 := [.int (iI ((zno L (i : Int) 1)))]) (ws' := [(q, .inr (1, [.ref na, .int (iI ((c : Int))), .int (iI ((fs : Int))), .int (iI ((db : Int)))])), cM G na 5 (zna n0 n1 n2 n3 n4), cI G n0 39 N0, cI G n1 39 N1, cI G n2 39 N2, cI G n3 39 N3, cI G n4 39 N4]) [0, 1, 2, 3, 4, 5, 6] rfl rfl rfl (by decide) ?_
    refine z_topi (y := (it.2.1 : Int)) ((zno_at hit).trans rfl) ?_
    refine z_iload_n (pc := 15) C dX1_isGoodWord_15 2 rfl ?_
    refine z_icmp_ne (tgt := 23) (pc := 16) C dX1_isGoodWord_16 (by decide) ⟨by omega, by omega⟩ ⟨by omega, by omega⟩ (fun c16 => ?_) (fun c16 => ?_)
    · refine z_iconst (pc := 23) C dX1_isGoodWord_23 ?_
      exact z_zret (pc := 24) C R0 (by decide) dX1_isGoodWord_24 (⟨0, Or.inr ⟨rfl, decide_eq_false (fun h => c16 h.2)⟩, rfl, rfl⟩)
    · refine z_iconst (pc := 19) C dX1_isGoodWord_19 ?_
      refine z_goto (tgt := 24) (pc := 20) C dX1_isGoodWord_20 (by decide) ?_
      exact z_zret (pc := 24) C R0 (by decide) dX1_isGoodWord_24 (⟨1, Or.inl ⟨rfl, decide_eq_true ⟨c6, c16⟩⟩, rfl, rfl⟩)

theorem ffX1_countKind_16 : zFF wsX1_countKind RX1 16 RX1 TX1 4 1 := ⟨by decide +kernel, by decide, by decide +kernel⟩
set_option maxHeartbeats 4000000 in
set_option maxRecDepth 100000 in
theorem k_X1_countKind (l : Launch) (G : ZG) (q na n0 n1 n2 n3 n4 : Nat) (N0 N1 N2 N3 N4 : Nat → Int) (c fs db : Nat) (L : List ZIt) (hL : zho N0 N1 N2 N3 N4 L) (hc : c = L.length) (hc39 : c ≤ 39) (hLB : ∀ it ∈ L, zItB it) (x : Int) (hx : iR x) : Kt l G yX1_countKind wsX1_countKind { frames := 1, cells := 0, slots := 0, locals := 22 } 0 0 False [.ref q, .int (iI x)] [(q, .inr (1, [.ref na, .int (iI ((c : Int))), .int (iI ((fs : Int))), .int (iI ((db : Int)))])), cM G na 5 (zna n0 n1 n2 n3 n4), cI G n0 39 N0, cI G n1 39 N1, cI G n2 39 N2, cI G n3 39 N3, cI G n4 39 N4] (fun v9 w9 => v9 = some (.int (iI ((((zcn (fun it => decide (it.1 = x)) L c) : Nat) : Int)))) ∧ w9 = [(q, .inr (1, [.ref na, .int (iI ((c : Int))), .int (iI ((fs : Int))), .int (iI ((db : Int)))])), cM G na 5 (zna n0 n1 n2 n3 n4), cI G n0 39 N0, cI G n1 39 N1, cI G n2 39 N2, cI G n3 39 N3, cI G n4 39 N4]) := by
  refine Kt.of (cc := cX1_countKind) (nL := 4) (ret := (some .int)) (own := RX1) rfl (by decide +kernel) rfl (Nat.le_of_ble_eq_true rfl) ?_
  intro X Y C R0 hin
  show Z l X G Y 4 0 0 0 [(0, .ref q), (1, .int (iI x))] [] [(q, .inr (1, [.ref na, .int (iI ((c : Int))), .int (iI ((fs : Int))), .int (iI ((db : Int)))])), cM G na 5 (zna n0 n1 n2 n3 n4), cI G n0 39 N0, cI G n1 39 N1, cI G n2 39 N2, cI G n3 39 N3, cI G n4 39 N4]
  refine z_iconst (pc := 0) C dX1_countKind_0 ?_
  refine z_istore_n (lv' := [(2, .int (iI 0)), (0, .ref q), (1, .int (iI x))]) (pc := 1) C dX1_countKind_1 (by decide) rfl ?_
  refine z_iconst (pc := 2) C dX1_countKind_2 ?_
  refine z_istore_n (lv' := [(3, .int (iI 0)), (2, .int (iI 0)), (0, .ref q), (1, .int (iI x))]) (pc := 3) C dX1_countKind_3 (by decide) rfl ?_
  have L4 : ∀ (n : Nat) (i : Nat), c < i + n → i ≤ c → Z l X G Y 4 0 0 4 [(0, .ref q), (1, .int (iI x)), (2, .int (iI ((((zcn (fun it => decide (it.1 = x)) L i) : Nat) : Int)))), (3, .int (iI ((i : Int))))] [] [(q, .inr (1, [.ref na, .int (iI ((c : Int))), .int (iI ((fs : Int))), .int (iI ((db : Int)))])), cM G na 5 (zna n0 n1 n2 n3 n4), cI G n0 39 N0, cI G n1 39 N1, cI G n2 39 N2, cI G n3 39 N3, cI G n4 39 N4] := by
    intro n
    induction n with
    | zero => intro i hn hi; exact absurd hn (by omega)
    | succ n ih =>
      intro i hn hi
      refine z_iload_n (pc := 4) C dX1_countKind_4 3 rfl ?_
      refine z_aload_n (pc := 5) C dX1_countKind_5 0 rfl ?_
      refine z_get (pc := 6) C dX1_countKind_6 zCl1 ffX1_countKind_16 0 rfl rfl ?_
      have hcb := zcn_b (fun it => decide (it.1 = x)) L i
      refine z_icmp_ge (tgt := 31) (pc := 9) C dX1_countKind_9 (by decide) ⟨by omega, by omega⟩ ⟨by omega, by omega⟩ (fun c9 => ?_) (fun c9 => ?_)
      · obtain rfl : i = c := by omega
        refine z_iload_n (pc := 31) C dX1_countKind_31 2 rfl ?_
        exact z_iret (pc := 32) C R0 dX1_countKind_32 (⟨rfl, rfl⟩)
      · obtain ⟨it, hit, hmem⟩ := zit_at (l := L) (i := i) (by omega)
        have hib := zfld_b (hLB it hmem) 0
        refine z_aload_n (pc := 12) C dX1_countKind_12 0 rfl ?_
        refine z_iload_n (pc := 13) C dX1_countKind_13 3 rfl ?_
        refine z_iconst (pc := 14) C dX1_countKind_14 ?_
        refine z_callV (As := [.int (iI ((i : Int))), .int (iI 0)]) (rest := []) (wc := [(q, .inr (1, [.ref na, .int (iI ((c : Int))), .int (iI ((fs : Int))), .int (iI ((db : Int)))])), cM G na 5 (zna n0 n1 n2 n3 n4), cI G n0 39 N0, cI G n1 39 N1, cI G n2 39 N2, cI G n3 39 N3, cI G n4 39 N4]) (wr := []) (fs := [.ref na, .int (iI ((c : Int))), .int (iI ((fs : Int))), .int (iI ((db : Int)))]) (pc := 15) C dX1_countKind_15 (k_X1_note l G q na n0 n1 n2 n3 n4 N0 N1 N2 N3 N4 c fs db L hL hc hc39 (i : Int) 0 0 ⟨by omega, by omega⟩ rfl (by decide)) gX1_countKind_X1_note ⟨⟨_, rfl⟩, ⟨rfl, rfl⟩, nyX1_note, ⟨Nat.le_of_ble_eq_true rfl, Nat.le_of_ble_eq_true rfl⟩⟩ rfl zCl1 rfl (fun h => h) rfl (Nat.le_of_ble_eq_true rfl) [0, 1, 2, 3, 4, 5, 6] [] rfl rfl (by decide) (by decide) (by decide) ⟨Nat.le_of_ble_eq_true rfl, Nat.le_of_ble_eq_true rfl⟩ (fun v w hk => ?_)
        obtain ⟨rfl, rfl⟩ := hk
        refine z_fix (pc2 := 18) (st2 := [.int (iI ((zno L (i : Int) 0)))]) (ws' := [(q, .inr (1, [.ref na, .int (iI ((c : Int))), .int (iI ((fs : Int))), .int (iI ((db : Int)))])), cM G na 5 (zna n0 n1 n2 n3 n4), cI G n0 39 N0, cI G n1 39 N1, cI G n2 39 N2, cI G n3 39 N3, cI G n4 39 N4]) [0, 1, 2, 3, 4, 5, 6] rfl rfl rfl (by decide) ?_
        refine z_topi (y := it.1) ((zno_at hit).trans rfl) ?_
        refine z_iload_n (pc := 18) C dX1_countKind_18 1 rfl ?_
        refine z_icmp_ne (tgt := 25) (pc := 19) C dX1_countKind_19 (by decide) ⟨by show -2147483648 ≤ zfld it 0; omega, by show zfld it 0 ≤ 2147483647; omega⟩ ⟨by omega, by omega⟩ (fun c19 => ?_) (fun c19 => ?_)
        · refine z_iinc (lv' := [(3, .int (iI (((i : Int) + 1)))), (0, .ref q), (1, .int (iI x)), (2, .int (iI ((((zcn (fun it => decide (it.1 = x)) L i) : Nat) : Int))))]) (pc := 25) C dX1_countKind_25 3 rfl (by decide) rfl ?_
          refine z_goto (tgt := 4) (pc := 28) C dX1_countKind_28 (by decide) ?_
          refine z_lv (lv' := [(0, .ref q), (1, .int (iI x)), (2, .int (iI ((((zcn (fun it => decide (it.1 = x)) L i) : Nat) : Int)))), (3, .int (iI (((i : Int) + 1))))]) [1, 2, 3, 0] rfl ?_
          refine z_eq rfl (lv2 := [(0, .ref q), (1, .int (iI (x))), (2, .int (iI (((zcn (fun it => decide (it.1 = x)) L (i + 1)) : Nat) : Int))), (3, .int (iI ((i + 1 : Nat) : Int)))]) (by rw [zcn_s hit, decide_eq_false c19]; rfl) rfl rfl ?_
          exact ih (i + 1) (by omega) (by omega)
        · refine z_iinc (lv' := [(2, .int (iI (((((zcn (fun it => decide (it.1 = x)) L i) : Nat) : Int) + 1)))), (0, .ref q), (1, .int (iI x)), (3, .int (iI ((i : Int))))]) (pc := 22) C dX1_countKind_22 2 rfl (by decide) rfl ?_
          refine z_iinc (lv' := [(3, .int (iI (((i : Int) + 1)))), (2, .int (iI (((((zcn (fun it => decide (it.1 = x)) L i) : Nat) : Int) + 1)))), (0, .ref q), (1, .int (iI x))]) (pc := 25) C dX1_countKind_25 3 rfl (by decide) rfl ?_
          refine z_goto (tgt := 4) (pc := 28) C dX1_countKind_28 (by decide) ?_
          refine z_lv (lv' := [(0, .ref q), (1, .int (iI x)), (2, .int (iI (((((zcn (fun it => decide (it.1 = x)) L i) : Nat) : Int) + 1)))), (3, .int (iI (((i : Int) + 1))))]) [2, 3, 1, 0] rfl ?_
          refine z_eq rfl (lv2 := [(0, .ref q), (1, .int (iI (x))), (2, .int (iI (((zcn (fun it => decide (it.1 = x)) L (i + 1)) : Nat) : Int))), (3, .int (iI ((i + 1 : Nat) : Int)))]) (by rw [zcn_s hit, decide_eq_true c19]; rfl) rfl rfl ?_
          exact ih (i + 1) (by omega) (by omega)
  refine z_lv (lv' := [(0, .ref q), (1, .int (iI x)), (2, .int (iI 0)), (3, .int (iI 0))]) [2, 3, 1, 0] rfl ?_
  exact L4 (c + 1) 0 (by omega) (by omega)

theorem ffX1_countDoubtful_16 : zFF wsX1_countDoubtful RX1 16 RX1 TX1 4 1 := ⟨by decide +kernel, by decide, by decide +kernel⟩
set_option maxHeartbeats 4000000 in
set_option maxRecDepth 100000 in
theorem k_X1_countDoubtful (l : Launch) (G : ZG) (q na n0 n1 n2 n3 n4 : Nat) (N0 N1 N2 N3 N4 : Nat → Int) (c fs db : Nat) (L : List ZIt) (hL : zho N0 N1 N2 N3 N4 L) (hc : c = L.length) (hc39 : c ≤ 39) (hLB : ∀ it ∈ L, zItB it) : Kt l G yX1_countDoubtful wsX1_countDoubtful { frames := 1, cells := 0, slots := 0, locals := 22 } 0 0 False [.ref q] [(q, .inr (1, [.ref na, .int (iI ((c : Int))), .int (iI ((fs : Int))), .int (iI ((db : Int)))])), cM G na 5 (zna n0 n1 n2 n3 n4), cI G n0 39 N0, cI G n1 39 N1, cI G n2 39 N2, cI G n3 39 N3, cI G n4 39 N4] (fun v9 w9 => v9 = some (.int (iI ((((zds L c) : Nat) : Int)))) ∧ w9 = [(q, .inr (1, [.ref na, .int (iI ((c : Int))), .int (iI ((fs : Int))), .int (iI ((db : Int)))])), cM G na 5 (zna n0 n1 n2 n3 n4), cI G n0 39 N0, cI G n1 39 N1, cI G n2 39 N2, cI G n3 39 N3, cI G n4 39 N4]) := by
  refine Kt.of (cc := cX1_countDoubtful) (nL := 3) (ret := (some .int)) (own := RX1) rfl (by decide +kernel) rfl (Nat.le_of_ble_eq_true rfl) ?_
  intro X Y C R0 hin
  show Z l X G Y 3 0 0 0 [(0, .ref q)] [] [(q, .inr (1, [.ref na, .int (iI ((c : Int))), .int (iI ((fs : Int))), .int (iI ((db : Int)))])), cM G na 5 (zna n0 n1 n2 n3 n4), cI G n0 39 N0, cI G n1 39 N1, cI G n2 39 N2, cI G n3 39 N3, cI G n4 39 N4]
  refine z_iconst (pc := 0) C dX1_countDoubtful_0 ?_
  refine z_istore_n (lv' := [(1, .int (iI 0)), (0, .ref q)]) (pc := 1) C dX1_countDoubtful_1 (by decide) rfl ?_
  refine z_iconst (pc := 2) C dX1_countDoubtful_2 ?_
  refine z_istore_n (lv' := [(2, .int (iI 0)), (1, .int (iI 0)), (0, .ref q)]) (pc := 3) C dX1_countDoubtful_3 (by decide) rfl ?_
  have L4 : ∀ (n : Nat) (i : Nat), c < i + n → i ≤ c → Z l X G Y 3 0 0 4 [(0, .ref q), (1, .int (iI ((((zds L i) : Nat) : Int)))), (2, .int (iI ((i : Int))))] [] [(q, .inr (1, [.ref na, .int (iI ((c : Int))), .int (iI ((fs : Int))), .int (iI ((db : Int)))])), cM G na 5 (zna n0 n1 n2 n3 n4), cI G n0 39 N0, cI G n1 39 N1, cI G n2 39 N2, cI G n3 39 N3, cI G n4 39 N4] := by
    intro n
    induction n with
    | zero => intro i hn hi; exact absurd hn (by omega)
    | succ n ih =>
      intro i hn hi
      refine z_iload_n (pc := 4) C dX1_countDoubtful_4 2 rfl ?_
      refine z_aload_n (pc := 5) C dX1_countDoubtful_5 0 rfl ?_
      refine z_get (pc := 6) C dX1_countDoubtful_6 zCl1 ffX1_countDoubtful_16 0 rfl rfl ?_
      refine z_icmp_ge (tgt := 27) (pc := 9) C dX1_countDoubtful_9 (by decide) ⟨by omega, by omega⟩ ⟨by omega, by omega⟩ (fun c9 => ?_) (fun c9 => ?_)
      · obtain rfl : i = c := by omega
        refine z_iload_n (pc := 27) C dX1_countDoubtful_27 1 rfl ?_
        exact z_iret (pc := 28) C R0 dX1_countDoubtful_28 (⟨rfl, rfl⟩)
      · obtain ⟨it, hit, hmem⟩ := zit_at (l := L) (i := i) (by omega)
        refine z_iload_n (pc := 12) C dX1_countDoubtful_12 1 rfl ?_
        refine z_aload_n (pc := 13) C dX1_countDoubtful_13 0 rfl ?_
        refine z_iload_n (pc := 14) C dX1_countDoubtful_14 2 rfl ?_
        refine z_iconst (pc := 15) C dX1_countDoubtful_15 ?_
        refine z_callV (As := [.int (iI ((i : Int))), .int (iI 3)]) (rest := [.int (iI ((((zds L i) : Nat) : Int)))]) (wc := [(q, .inr (1, [.ref na, .int (iI ((c : Int))), .int (iI ((fs : Int))), .int (iI ((db : Int)))])), cM G na 5 (zna n0 n1 n2 n3 n4), cI G n0 39 N0, cI G n1 39 N1, cI G n2 39 N2, cI G n3 39 N3, cI G n4 39 N4]) (wr := []) (fs := [.ref na, .int (iI ((c : Int))), .int (iI ((fs : Int))), .int (iI ((db : Int)))]) (pc := 16) C dX1_countDoubtful_16 (k_X1_note l G q na n0 n1 n2 n3 n4 N0 N1 N2 N3 N4 c fs db L hL hc hc39 (i : Int) 3 3 ⟨by omega, by omega⟩ rfl (by decide)) gX1_countDoubtful_X1_note ⟨⟨_, rfl⟩, ⟨rfl, rfl⟩, nyX1_note, ⟨Nat.le_of_ble_eq_true rfl, Nat.le_of_ble_eq_true rfl⟩⟩ rfl zCl1 rfl (fun h => h) rfl (Nat.le_of_ble_eq_true rfl) [0, 1, 2, 3, 4, 5, 6] [] rfl rfl (by decide) (by decide) (by decide) ⟨Nat.le_of_ble_eq_true rfl, Nat.le_of_ble_eq_true rfl⟩ (fun v w hk => ?_)
        obtain ⟨rfl, rfl⟩ := hk
        refine z_fix (pc2 := 19) (st2 := [.int (iI ((zno L (i : Int) 3))), .int (iI ((((zds L i) : Nat) : Int)))]) (ws' := [(q, .inr (1, [.ref na, .int (iI ((c : Int))), .int (iI ((fs : Int))), .int (iI ((db : Int)))])), cM G na 5 (zna n0 n1 n2 n3 n4), cI G n0 39 N0, cI G n1 39 N1, cI G n2 39 N2, cI G n3 39 N3, cI G n4 39 N4]) [0, 1, 2, 3, 4, 5, 6] rfl rfl rfl (by decide) ?_
        refine z_topi (y := ((it.2.2.2.1 : Nat) : Int)) ((zno_at hit).trans rfl) ?_
        refine z_iadd (pc := 19) C dX1_countDoubtful_19 ?_
        refine z_topi (y := (((zds L (i + 1)) : Nat) : Int)) (by rw [zds_s hit]; rfl) ?_
        refine z_istore_n (lv' := [(1, .int (iI ((((zds L (i + 1)) : Nat) : Int)))), (0, .ref q), (2, .int (iI ((i : Int))))]) (pc := 20) C dX1_countDoubtful_20 (by decide) rfl ?_
        refine z_iinc (lv' := [(2, .int (iI (((i : Int) + 1)))), (1, .int (iI ((((zds L (i + 1)) : Nat) : Int)))), (0, .ref q)]) (pc := 21) C dX1_countDoubtful_21 2 rfl (by decide) rfl ?_
        refine z_goto (tgt := 4) (pc := 24) C dX1_countDoubtful_24 (by decide) ?_
        refine z_lv (lv' := [(0, .ref q), (1, .int (iI ((((zds L (i + 1)) : Nat) : Int)))), (2, .int (iI (((i : Int) + 1))))]) [2, 1, 0] rfl ?_
        exact ih (i + 1) (by omega) (by omega)
  refine z_lv (lv' := [(0, .ref q), (1, .int (iI 0)), (2, .int (iI 0))]) [2, 1, 0] rfl ?_
  exact L4 (c + 1) 0 (by omega) (by omega)

theorem ffX1_isAllWell_16 : zFF wsX1_isAllWell RX1 16 RX1 TX1 4 1 := ⟨by decide +kernel, by decide, by decide +kernel⟩
theorem nyX2_wordCount : yX2_wordCount.cls ≠ "java/lang/invoke/MethodHandle" ∧ yX2_wordCount.cls ≠ "java/lang/invoke/VarHandle" ∧ (parseMethodDescriptor yX2_wordCount.desc).map (fun d => d.parameters.length) = some 0 := by decide +kernel
theorem nyX2_wordOfRank : yX2_wordOfRank.cls ≠ "java/lang/invoke/MethodHandle" ∧ yX2_wordOfRank.cls ≠ "java/lang/invoke/VarHandle" ∧ (parseMethodDescriptor yX2_wordOfRank.desc).map (fun d => d.parameters.length) = some 1 := by decide +kernel
theorem nyX1_isGoodWord : yX1_isGoodWord.cls ≠ "java/lang/invoke/MethodHandle" ∧ yX1_isGoodWord.cls ≠ "java/lang/invoke/VarHandle" ∧ (parseMethodDescriptor yX1_isGoodWord.desc).map (fun d => d.parameters.length) = some 2 := by decide +kernel
set_option maxHeartbeats 4000000 in
set_option maxRecDepth 100000 in
theorem k_X1_isAllWell (l : Launch) (G : ZG) (h a1 a2 a3 : Nat) (b : Nat → Bool) (W S : Nat → Int) (e k : Nat) (hI : zI b W S e k) (q na n0 n1 n2 n3 n4 : Nat) (N0 N1 N2 N3 N4 : Nat → Int) (c fs db : Nat) (L : List ZIt) (hL : zho N0 N1 N2 N3 N4 L) (hc : c = L.length) (hc39 : c ≤ 39) (hLB : ∀ it ∈ L, zItB it) : Kt l G yX1_isAllWell wsX1_isAllWell { frames := 2, cells := 0, slots := 0, locals := 44 } 0 0 False [.ref q, .ref h] [(q, .inr (1, [.ref na, .int (iI ((c : Int))), .int (iI ((fs : Int))), .int (iI ((db : Int)))])), cM G na 5 (zna n0 n1 n2 n3 n4), cI G n0 39 N0, cI G n1 39 N1, cI G n2 39 N2, cI G n3 39 N3, cI G n4 39 N4, (h, .inr (2, [.ref a1, .ref a2, .ref a3, .int (iI ((e : Int))), .int (iI ((k : Int)))])), cL G a1 24 (zrw b), cI G a2 37 W, cI G a3 5 S] (fun v9 w9 => ∃ (rr : Int), ((rr = 1 ∧ zwell L W k) ∨ (rr = 0 ∧ ¬ zwell L W k)) ∧ v9 = some (.int (iI rr)) ∧ w9 = [(q, .inr (1, [.ref na, .int (iI ((c : Int))), .int (iI ((fs : Int))), .int (iI ((db : Int)))])), cM G na 5 (zna n0 n1 n2 n3 n4), cI G n0 39 N0, cI G n1 39 N1, cI G n2 39 N2, cI G n3 39 N3, cI G n4 39 N4, (h, .inr (2, [.ref a1, .ref a2, .ref a3, .int (iI ((e : Int))), .int (iI ((k : Int)))])), cL G a1 24 (zrw b), cI G a2 37 W, cI G a3 5 S]) := by
  refine Kt.of (cc := cX1_isAllWell) (nL := 3) (ret := (some .boolean)) (own := RX1) rfl (by decide +kernel) rfl (Nat.le_of_ble_eq_true rfl) ?_
  intro X Y C R0 hin
  show Z l X G Y 3 0 0 0 [(0, .ref q), (1, .ref h)] [] [(q, .inr (1, [.ref na, .int (iI ((c : Int))), .int (iI ((fs : Int))), .int (iI ((db : Int)))])), cM G na 5 (zna n0 n1 n2 n3 n4), cI G n0 39 N0, cI G n1 39 N1, cI G n2 39 N2, cI G n3 39 N3, cI G n4 39 N4, (h, .inr (2, [.ref a1, .ref a2, .ref a3, .int (iI ((e : Int))), .int (iI ((k : Int)))])), cL G a1 24 (zrw b), cI G a2 37 W, cI G a3 5 S]
  obtain ⟨he, hk, hb, s0, s1, s2, s3, s4, hw⟩ := id hI
  refine z_aload_n (pc := 0) C dX1_isAllWell_0 0 rfl ?_
  refine z_get (pc := 1) C dX1_isAllWell_1 zCl1 ffX1_isAllWell_16 0 rfl rfl ?_
  refine z_aload_n (pc := 4) C dX1_isAllWell_4 1 rfl ?_
  refine z_callV (As := []) (rest := [.int (iI ((c : Int)))]) (wc := [(h, .inr (2, [.ref a1, .ref a2, .ref a3, .int (iI ((e : Int))), .int (iI ((k : Int)))])), cL G a1 24 (zrw b), cI G a2 37 W, cI G a3 5 S]) (wr := [(q, .inr (1, [.ref na, .int (iI ((c : Int))), .int (iI ((fs : Int))), .int (iI ((db : Int)))])), cM G na 5 (zna n0 n1 n2 n3 n4), cI G n0 39 N0, cI G n1 39 N1, cI G n2 39 N2, cI G n3 39 N3, cI G n4 39 N4]) (fs := [.ref a1, .ref a2, .ref a3, .int (iI ((e : Int))), .int (iI ((k : Int)))]) (pc := 5) C dX1_isAllWell_5 (k_X2_wordCount l G h a1 a2 a3 b W S e k hI ) gX1_isAllWell_X2_wordCount ⟨⟨_, rfl⟩, ⟨rfl, rfl⟩, nyX2_wordCount, ⟨Nat.le_of_ble_eq_true rfl, Nat.le_of_ble_eq_true rfl⟩⟩ rfl zCl2 rfl (fun h => h) rfl (Nat.le_of_ble_eq_true rfl) [7, 8, 9, 10] [0, 1, 2, 3, 4, 5, 6] rfl rfl (by decide) (by decide) (by decide) ⟨Nat.le_of_ble_eq_true rfl, Nat.le_of_ble_eq_true rfl⟩ (fun v w hk => ?_)
  obtain ⟨rfl, rfl⟩ := hk
  refine z_fix (pc2 := 8) (st2 := [.int (iI ((k : Int))), .int (iI ((c : Int)))]) (ws' := [(q, .inr (1, [.ref na, .int (iI ((c : Int))), .int (iI ((fs : Int))), .int (iI ((db : Int)))])), cM G na 5 (zna n0 n1 n2 n3 n4), cI G n0 39 N0, cI G n1 39 N1, cI G n2 39 N2, cI G n3 39 N3, cI G n4 39 N4, (h, .inr (2, [.ref a1, .ref a2, .ref a3, .int (iI ((e : Int))), .int (iI ((k : Int)))])), cL G a1 24 (zrw b), cI G a2 37 W, cI G a3 5 S]) [0, 1, 2, 3, 4, 5, 6, 7, 8, 9, 10] rfl rfl rfl (by decide) ?_
  refine z_icmp_eq (tgt := 13) (pc := 8) C dX1_isAllWell_8 (by decide) ⟨by omega, by omega⟩ ⟨by omega, by omega⟩ (fun c8 => ?_) (fun c8 => ?_)
  · refine z_iconst (pc := 13) C dX1_isAllWell_13 ?_
    refine z_istore_n (lv' := [(2, .int (iI 0)), (0, .ref q), (1, .ref h)]) (pc := 14) C dX1_isAllWell_14 (by decide) rfl ?_
    have L15 : ∀ (n : Nat) (i : Nat), c < i + n → i ≤ c → (∀ j it, j < i → L[j]? = some it → it.1 = 0 ∧ (it.2.1 : Int) = W j) → Z l X G Y 3 0 0 15 [(0, .ref q), (1, .ref h), (2, .int (iI ((i : Int))))] [] [(q, .inr (1, [.ref na, .int (iI ((c : Int))), .int (iI ((fs : Int))), .int (iI ((db : Int)))])), cM G na 5 (zna n0 n1 n2 n3 n4), cI G n0 39 N0, cI G n1 39 N1, cI G n2 39 N2, cI G n3 39 N3, cI G n4 39 N4, (h, .inr (2, [.ref a1, .ref a2, .ref a3, .int (iI ((e : Int))), .int (iI ((k : Int)))])), cL G a1 24 (zrw b), cI G a2 37 W, cI G a3 5 S] := by
      intro n
      induction n with
      | zero => intro i hn hi hq; exact absurd hn (by omega)
      | succ n ih =>
        intro i hn hi hq
        refine z_iload_n (pc := 15) C dX1_isAllWell_15 2 rfl ?_
        refine z_aload_n (pc := 16) C dX1_isAllWell_16 0 rfl ?_
        refine z_get (pc := 17) C dX1_isAllWell_17 zCl1 ffX1_isAllWell_16 0 rfl rfl ?_
        refine z_icmp_ge (tgt := 44) (pc := 20) C dX1_isAllWell_20 (by decide) ⟨by omega, by omega⟩ ⟨by omega, by omega⟩ (fun c20 => ?_) (fun c20 => ?_)
        · obtain rfl : i = c := by omega
          refine z_iconst (pc := 44) C dX1_isAllWell_44 ?_
          exact z_zret (pc := 45) C R0 (by decide) dX1_isAllWell_45 (⟨1, Or.inl ⟨rfl, by omega, fun j it h => hq j it (by have := (List.getElem?_eq_some_iff.mp h).1; omega) h⟩, rfl, rfl⟩)
        · obtain ⟨it, hit, hmem⟩ := zit_at (l := L) (i := i) (by omega)
          have hwi := hw i (by omega)
          refine z_aload_n (pc := 23) C dX1_isAllWell_23 0 rfl ?_
          refine z_iload_n (pc := 24) C dX1_isAllWell_24 2 rfl ?_
          refine z_aload_n (pc := 25) C dX1_isAllWell_25 1 rfl ?_
          refine z_iload_n (pc := 26) C dX1_isAllWell_26 2 rfl ?_
          refine z_callV (As := [.int (iI ((i : Int)))]) (rest := [.int (iI ((i : Int))), .ref q]) (wc := [(h, .inr (2, [.ref a1, .ref a2, .ref a3, .int (iI ((e : Int))), .int (iI ((k : Int)))])), cL G a1 24 (zrw b), cI G a2 37 W, cI G a3 5 S]) (wr := [(q, .inr (1, [.ref na, .int (iI ((c : Int))), .int (iI ((fs : Int))), .int (iI ((db : Int)))])), cM G na 5 (zna n0 n1 n2 n3 n4), cI G n0 39 N0, cI G n1 39 N1, cI G n2 39 N2, cI G n3 39 N3, cI G n4 39 N4]) (fs := [.ref a1, .ref a2, .ref a3, .int (iI ((e : Int))), .int (iI ((k : Int)))]) (pc := 27) C dX1_isAllWell_27 (k_X2_wordOfRank l G h a1 a2 a3 b W S e k hI (i : Int) ⟨by omega, by omega⟩) gX1_isAllWell_X2_wordOfRank ⟨⟨_, rfl⟩, ⟨rfl, rfl⟩, nyX2_wordOfRank, ⟨Nat.le_of_ble_eq_true rfl, Nat.le_of_ble_eq_true rfl⟩⟩ rfl zCl2 rfl (fun h => h) rfl (Nat.le_of_ble_eq_true rfl) [7, 8, 9, 10] [0, 1, 2, 3, 4, 5, 6] rfl rfl (by decide) (by decide) (by decide) ⟨Nat.le_of_ble_eq_true rfl, Nat.le_of_ble_eq_true rfl⟩ (fun v w hk => ?_)
          obtain ⟨rfl, rfl⟩ := hk
          refine z_fix (pc2 := 30) (st2 := [.int (iI ((zwr W k (i : Int)))), .int (iI ((i : Int))), .ref q]) (ws' := [(q, .inr (1, [.ref na, .int (iI ((c : Int))), .int (iI ((fs : Int))), .int (iI ((db : Int)))])), cM G na 5 (zna n0 n1 n2 n3 n4), cI G n0 39 N0, cI G n1 39 N1, cI G n2 39 N2, cI G n3 39 N3, cI G n4 39 N4, (h, .inr (2, [.ref a1, .ref a2, .ref a3, .int (iI ((e : Int))), .int (iI ((k : Int)))])), cL G a1 24 (zrw b), cI G a2 37 W, cI G a3 5 S]) [0, 1, 2, 3, 4, 5, 6, 7, 8, 9, 10] rfl rfl rfl (by decide) ?_
          refine z_topi (y := (W i)) (by unfold zwr; rw [if_pos (by omega), Int.toNat_natCast]) ?_
          refine z_callV (As := [.int (iI ((i : Int))), .int (iI ((W i)))]) (rest := []) (wc := [(q, .inr (1, [.ref na, .int (iI ((c : Int))), .int (iI ((fs : Int))), .int (iI ((db : Int)))])), cM G na 5 (zna n0 n1 n2 n3 n4), cI G n0 39 N0, cI G n1 39 N1, cI G n2 39 N2, cI G n3 39 N3, cI G n4 39 N4]) (wr := [(h, .inr (2, [.ref a1, .ref a2, .ref a3, .int (iI ((e : Int))), .int (iI ((k : Int)))])), cL G a1 24 (zrw b), cI G a2 37 W, cI G a3 5 S]) (fs := [.ref na, .int (iI ((c : Int))), .int (iI ((fs : Int))), .int (iI ((db : Int)))]) (pc := 30) C dX1_isAllWell_30 (k_X1_isGoodWord l G q na n0 n1 n2 n3 n4 N0 N1 N2 N3 N4 c fs db L hL hc hc39 i it (W i) hit (hLB it hmem) ⟨by omega, by omega⟩) gX1_isAllWell_X1_isGoodWord ⟨⟨_, rfl⟩, ⟨rfl, rfl⟩, nyX1_isGoodWord, ⟨Nat.le_of_ble_eq_true rfl, Nat.le_of_ble_eq_true rfl⟩⟩ rfl zCl1 rfl (fun h => h) rfl (Nat.le_of_ble_eq_true rfl) [0, 1, 2, 3, 4, 5, 6] [7, 8, 9, 10] rfl rfl (by decide) (by decide) (by decide) ⟨Nat.le_of_ble_eq_true rfl, Nat.le_of_ble_eq_true rfl⟩ (fun v w hk => ?_)
          obtain ⟨r_30, h30_0, rfl, rfl⟩ := hk
          refine z_fix (pc2 := 33) (st2 := [.int (iI r_30)]) (ws' := [(q, .inr (1, [.ref na, .int (iI ((c : Int))), .int (iI ((fs : Int))), .int (iI ((db : Int)))])), cM G na 5 (zna n0 n1 n2 n3 n4), cI G n0 39 N0, cI G n1 39 N1, cI G n2 39 N2, cI G n3 39 N3, cI G n4 39 N4, (h, .inr (2, [.ref a1, .ref a2, .ref a3, .int (iI ((e : Int))), .int (iI ((k : Int)))])), cL G a1 24 (zrw b), cI G a2 37 W, cI G a3 5 S]) [4, 5, 6, 7, 8, 9, 10, 0, 1, 2, 3] rfl rfl rfl (by decide) ?_
          have hgd : zgood (W i) it = true → it.1 = 0 ∧ (it.2.1 : Int) = W i := fun q => of_decide_eq_true q
          refine z_if_ne (tgt := 38) (pc := 33) C dX1_isAllWell_33 (by decide) ⟨by omega, by omega⟩ (fun c33 => ?_) (fun c33 => ?_)
          · refine z_iinc (lv' := [(2, .int (iI (((i : Int) + 1)))), (0, .ref q), (1, .ref h)]) (pc := 38) C dX1_isAllWell_38 2 rfl (by decide) rfl ?_
            refine z_goto (tgt := 15) (pc := 41) C dX1_isAllWell_41 (by decide) ?_
            refine z_lv (lv' := [(0, .ref q), (1, .ref h), (2, .int (iI (((i : Int) + 1))))]) [1, 2, 0] rfl ?_
            exact ih (i + 1) (by omega) (by omega) (fun j it2 hj hj2 => by
              by_cases hji : j = i
              · subst hji
                rw [hit] at hj2
                cases hj2
                rcases h30_0 with q | q
                · exact hgd q.2
                · exact absurd q.1 (by omega)
              · exact hq j it2 (by omega) hj2)
          · refine z_iconst (pc := 36) C dX1_isAllWell_36 ?_
            exact z_zret (pc := 37) C R0 (by decide) dX1_isAllWell_37 (⟨0, Or.inr ⟨rfl, fun h => by
  rcases h30_0 with q | q
  · omega
  · have hh := h.2 i it hit
    unfold zgood at q
    rw [decide_eq_true hh] at q
    exact absurd q.2 (by decide)⟩, rfl, rfl⟩)
    refine z_lv (lv' := [(0, .ref q), (1, .ref h), (2, .int (iI 0))]) [1, 2, 0] rfl ?_
    exact L15 (c + 1) 0 (by omega) (by omega) (fun j it hj => absurd hj (by omega))
  · refine z_iconst (pc := 11) C dX1_isAllWell_11 ?_
    exact z_zret (pc := 12) C R0 (by decide) dX1_isAllWell_12 (⟨0, Or.inr ⟨rfl, fun h => c8 (by have := h.1; omega)⟩, rfl, rfl⟩)
