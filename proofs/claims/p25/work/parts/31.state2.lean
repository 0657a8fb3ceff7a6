/-! THE STATE, walked: falls, counts, words, stretches, copies -/
theorem nyX2_nextFall : yX2_nextFall.cls ≠ "java/lang/invoke/MethodHandle" ∧ yX2_nextFall.cls ≠ "java/lang/invoke/VarHandle" ∧ (parseMethodDescriptor yX2_nextFall.desc).map (fun d => d.parameters.length) = some 1 := by decide +kernel
theorem ffX2_fallOfRank_39 : zFF wsX2_fallOfRank RX2 39 RX2 TX2 5 3 := ⟨by decide +kernel, by decide, by decide +kernel⟩
set_option maxHeartbeats 4000000 in
set_option maxRecDepth 100000 in
theorem k_X2_fallOfRank (l : Launch) (G : ZG) (h a1 a2 a3 : Nat) (b : Nat → Bool) (W S : Nat → Int) (e k : Nat) (hI : zI b W S e k) (z : Int) (r : Nat) (hz : z = (r : Int)) (hr : r ≤ 2147483647) : Kt l G yX2_fallOfRank wsX2_fallOfRank { frames := 2, cells := 0, slots := 0, locals := 52 } 0 0 False [.ref h, .int (iI z)] [(h, .inr (2, [.ref a1, .ref a2, .ref a3, .int (iI ((e : Int))), .int (iI ((k : Int)))])), cL G a1 24 (zrw b), cI G a2 37 W, cI G a3 5 S] (fun v9 w9 => v9 = some (.int (iI ((zfr b e r)))) ∧ w9 = [(h, .inr (2, [.ref a1, .ref a2, .ref a3, .int (iI ((e : Int))), .int (iI ((k : Int)))])), cL G a1 24 (zrw b), cI G a2 37 W, cI G a3 5 S]) := by
  refine Kt.of (cc := cX2_fallOfRank) (nL := 4) (ret := (some .int)) (own := RX2) rfl (by decide +kernel) rfl (Nat.le_of_ble_eq_true rfl) ?_
  intro X Y C R0 hin
  show Z l X G Y 4 0 0 0 [(0, .ref h), (1, .int (iI z))] [] [(h, .inr (2, [.ref a1, .ref a2, .ref a3, .int (iI ((e : Int))), .int (iI ((k : Int)))])), cL G a1 24 (zrw b), cI G a2 37 W, cI G a3 5 S]
  obtain ⟨he, hk, hb, s0, s1, s2, s3, s4, hw⟩ := id hI
  refine z_aload_n (pc := 0) C dX2_fallOfRank_0 0 rfl ?_
  refine z_iconst (pc := 1) C dX2_fallOfRank_1 ?_
  refine z_callV (As := [.int (iI 0)]) (rest := []) (wc := [(h, .inr (2, [.ref a1, .ref a2, .ref a3, .int (iI ((e : Int))), .int (iI ((k : Int)))])), cL G a1 24 (zrw b), cI G a2 37 W, cI G a3 5 S]) (wr := []) (fs := [.ref a1, .ref a2, .ref a3, .int (iI ((e : Int))), .int (iI ((k : Int)))]) (pc := 2) C dX2_fallOfRank_2 (k_X2_nextFall l G h a1 a2 a3 b W S e k hI 0 0 rfl (by decide)) gX2_fallOfRank_X2_nextFall ⟨⟨_, rfl⟩, ⟨rfl, rfl⟩, nyX2_nextFall, ⟨Nat.le_of_ble_eq_true rfl, Nat.le_of_ble_eq_true rfl⟩⟩ rfl zCl2 rfl (fun h => h) rfl (Nat.le_of_ble_eq_true rfl) [0, 1, 2, 3] [] rfl rfl (by decide) (by decide) (by decide) ⟨Nat.le_of_ble_eq_true rfl, Nat.le_of_ble_eq_true rfl⟩ (fun v w hk => ?_)
  obtain ⟨rfl, rfl⟩ := hk
  refine z_fix (pc2 := 5) (st2 := [.int (iI ((((znf b e 0) : Nat) : Int)))]) (ws' := [(h, .inr (2, [.ref a1, .ref a2, .ref a3, .int (iI ((e : Int))), .int (iI ((k : Int)))])), cL G a1 24 (zrw b), cI G a2 37 W, cI G a3 5 S]) [0, 1, 2, 3] rfl rfl rfl (by decide) ?_
  refine z_istore_n (lv' := [(2, .int (iI ((((znf b e 0) : Nat) : Int)))), (0, .ref h), (1, .int (iI z))]) (pc := 5) C dX2_fallOfRank_5 (by decide) rfl ?_
  refine z_iconst (pc := 6) C dX2_fallOfRank_6 ?_
  refine z_istore_n (lv' := [(3, .int (iI 0)), (2, .int (iI ((((znf b e 0) : Nat) : Int)))), (0, .ref h), (1, .int (iI z))]) (pc := 7) C dX2_fallOfRank_7 (by decide) rfl ?_
  have L8 : ∀ (n : Nat) (i : Nat), r < i + n → i ≤ r → Z l X G Y 4 0 0 8 [(0, .ref h), (1, .int (iI ((r : Int)))), (2, .int (iI ((((zfs b e i) : Nat) : Int)))), (3, .int (iI ((i : Int))))] [] [(h, .inr (2, [.ref a1, .ref a2, .ref a3, .int (iI ((e : Int))), .int (iI ((k : Int)))])), cL G a1 24 (zrw b), cI G a2 37 W, cI G a3 5 S] := by
    intro n
    induction n with
    | zero => intro i hn hi; exact absurd hn (by omega)
    | succ n ih =>
      intro i hn hi
      refine z_iload_n (pc := 8) C dX2_fallOfRank_8 3 rfl ?_
      refine z_iload_n (pc := 9) C dX2_fallOfRank_9 1 rfl ?_
      have hle := zfs_le b e i
      refine z_icmp_ge (tgt := 35) (pc := 10) C dX2_fallOfRank_10 (by decide) ⟨by omega, by omega⟩ ⟨by omega, by omega⟩ (fun c10 => ?_) (fun c10 => ?_)
      · obtain rfl : i = r := by omega
        refine z_iload_n (pc := 35) C dX2_fallOfRank_35 2 rfl ?_
        refine z_aload_n (pc := 36) C dX2_fallOfRank_36 0 rfl ?_
        refine z_get (pc := 37) C dX2_fallOfRank_37 zCl2 ffX2_fallOfRank_39 0 rfl rfl ?_
        refine z_icmp_ge (tgt := 47) (pc := 40) C dX2_fallOfRank_40 (by decide) ⟨by omega, by omega⟩ ⟨by omega, by omega⟩ (fun c40 => ?_) (fun c40 => ?_)
        · refine z_bipush (pc := 47) C dX2_fallOfRank_47 (by decide +kernel) ?_
          refine z_topi (y := (zfr b e i)) (by unfold zfr; rw [if_neg (by omega)]) ?_
          exact z_iret (pc := 49) C R0 dX2_fallOfRank_49 (⟨rfl, rfl⟩)
        · refine z_iload_n (pc := 43) C dX2_fallOfRank_43 2 rfl ?_
          refine z_goto (tgt := 49) (pc := 44) C dX2_fallOfRank_44 (by decide) ?_
          refine z_topi (y := (zfr b e i)) (by unfold zfr; rw [if_pos (by omega)]) ?_
          exact z_iret (pc := 49) C R0 dX2_fallOfRank_49 (⟨rfl, rfl⟩)
      · refine z_iload_n (pc := 13) C dX2_fallOfRank_13 2 rfl ?_
        refine z_aload_n (pc := 14) C dX2_fallOfRank_14 0 rfl ?_
        refine z_get (pc := 15) C dX2_fallOfRank_15 zCl2 ffX2_fallOfRank_39 0 rfl rfl ?_
        refine z_icmp_ge (tgt := 35) (pc := 18) C dX2_fallOfRank_18 (by decide) ⟨by omega, by omega⟩ ⟨by omega, by omega⟩ (fun c18 => ?_) (fun c18 => ?_)
        · refine z_iload_n (pc := 35) C dX2_fallOfRank_35 2 rfl ?_
          refine z_aload_n (pc := 36) C dX2_fallOfRank_36 0 rfl ?_
          refine z_get (pc := 37) C dX2_fallOfRank_37 zCl2 ffX2_fallOfRank_39 0 rfl rfl ?_
          refine z_icmp_ge (tgt := 47) (pc := 40) C dX2_fallOfRank_40 (by decide) ⟨by omega, by omega⟩ ⟨by omega, by omega⟩ (fun c40 => ?_) (fun c40 => ?_)
          · refine z_bipush (pc := 47) C dX2_fallOfRank_47 (by decide +kernel) ?_
            have ht49 : (-5) = (zfr b e r) := by
              have := zfs_end (b := b) (e := e) (r := i) (by omega) (r - i)
              rw [show i + (r - i) = r by omega] at this
              unfold zfr
              rw [if_neg (by omega)]
            refine z_topi (y := (zfr b e r)) (ht49) ?_
            exact z_iret (pc := 49) C R0 dX2_fallOfRank_49 (⟨rfl, rfl⟩)
          · exfalso; omega
        · refine z_aload_n (pc := 21) C dX2_fallOfRank_21 0 rfl ?_
          refine z_iload_n (pc := 22) C dX2_fallOfRank_22 2 rfl ?_
          refine z_iconst (pc := 23) C dX2_fallOfRank_23 ?_
          refine z_iadd (pc := 24) C dX2_fallOfRank_24 ?_
          refine z_callV (As := [.int (iI (((((zfs b e i) : Nat) : Int) + 1)))]) (rest := []) (wc := [(h, .inr (2, [.ref a1, .ref a2, .ref a3, .int (iI ((e : Int))), .int (iI ((k : Int)))])), cL G a1 24 (zrw b), cI G a2 37 W, cI G a3 5 S]) (wr := []) (fs := [.ref a1, .ref a2, .ref a3, .int (iI ((e : Int))), .int (iI ((k : Int)))]) (pc := 25) C dX2_fallOfRank_25 (k_X2_nextFall l G h a1 a2 a3 b W S e k hI (((zfs b e i : Nat) : Int) + 1) (zfs b e i + 1) (by omega) (by omega)) gX2_fallOfRank_X2_nextFall ⟨⟨_, rfl⟩, ⟨rfl, rfl⟩, nyX2_nextFall, ⟨Nat.le_of_ble_eq_true rfl, Nat.le_of_ble_eq_true rfl⟩⟩ rfl zCl2 rfl (fun h => h) rfl (Nat.le_of_ble_eq_true rfl) [0, 1, 2, 3] [] rfl rfl (by decide) (by decide) (by decide) ⟨Nat.le_of_ble_eq_true rfl, Nat.le_of_ble_eq_true rfl⟩ (fun v w hk => ?_)
          obtain ⟨rfl, rfl⟩ := hk
          refine z_fix (pc2 := 28) (st2 := [.int (iI ((((znf b e (zfs b e i + 1)) : Nat) : Int)))]) (ws' := [(h, .inr (2, [.ref a1, .ref a2, .ref a3, .int (iI ((e : Int))), .int (iI ((k : Int)))])), cL G a1 24 (zrw b), cI G a2 37 W, cI G a3 5 S]) [0, 1, 2, 3] rfl rfl rfl (by decide) ?_
          refine z_istore_n (lv' := [(2, .int (iI ((((znf b e (zfs b e i + 1)) : Nat) : Int)))), (0, .ref h), (1, .int (iI ((r : Int)))), (3, .int (iI ((i : Int))))]) (pc := 28) C dX2_fallOfRank_28 (by decide) rfl ?_
          refine z_iinc (lv' := [(3, .int (iI (((i : Int) + 1)))), (2, .int (iI ((((znf b e (zfs b e i + 1)) : Nat) : Int)))), (0, .ref h), (1, .int (iI ((r : Int))))]) (pc := 29) C dX2_fallOfRank_29 3 rfl (by decide) rfl ?_
          refine z_goto (tgt := 8) (pc := 32) C dX2_fallOfRank_32 (by decide) ?_
          refine z_lv (lv' := [(0, .ref h), (1, .int (iI ((r : Int)))), (2, .int (iI ((((znf b e (zfs b e i + 1)) : Nat) : Int)))), (3, .int (iI (((i : Int) + 1))))]) [2, 3, 1, 0] rfl ?_
          exact ih (i + 1) (by omega) (by omega)
  refine z_lv (lv' := [(0, .ref h), (1, .int (iI z)), (2, .int (iI ((((znf b e 0) : Nat) : Int)))), (3, .int (iI 0))]) [2, 3, 1, 0] rfl ?_
  subst hz
  exact L8 (r + 1) 0 (by omega) (by omega)

set_option maxHeartbeats 4000000 in
set_option maxRecDepth 100000 in
theorem k_X2_countFalls (l : Launch) (G : ZG) (h a1 a2 a3 : Nat) (b : Nat → Bool) (W S : Nat → Int) (e k : Nat) (hI : zI b W S e k) : Kt l G yX2_countFalls wsX2_countFalls { frames := 1, cells := 0, slots := 0, locals := 23 } 0 0 False [.ref h] [(h, .inr (2, [.ref a1, .ref a2, .ref a3, .int (iI ((e : Int))), .int (iI ((k : Int)))])), cL G a1 24 (zrw b), cI G a2 37 W, cI G a3 5 S] (fun v9 w9 => v9 = some (.int (iI ((zcf b e)))) ∧ w9 = [(h, .inr (2, [.ref a1, .ref a2, .ref a3, .int (iI ((e : Int))), .int (iI ((k : Int)))])), cL G a1 24 (zrw b), cI G a2 37 W, cI G a3 5 S]) := by
  refine Kt.of (cc := cX2_countFalls) (nL := 3) (ret := (some .int)) (own := RX2) rfl (by decide +kernel) rfl (Nat.le_of_ble_eq_true rfl) ?_
  intro X Y C R0 hin
  show Z l X G Y 3 0 0 0 [(0, .ref h)] [] [(h, .inr (2, [.ref a1, .ref a2, .ref a3, .int (iI ((e : Int))), .int (iI ((k : Int)))])), cL G a1 24 (zrw b), cI G a2 37 W, cI G a3 5 S]
  obtain ⟨he, hk, hb, s0, s1, s2, s3, s4, hw⟩ := id hI
  refine z_iconst (pc := 0) C dX2_countFalls_0 ?_
  refine z_istore_n (lv' := [(1, .int (iI 0)), (0, .ref h)]) (pc := 1) C dX2_countFalls_1 (by decide) rfl ?_
  refine z_iconst (pc := 2) C dX2_countFalls_2 ?_
  refine z_istore_n (lv' := [(2, .int (iI 0)), (1, .int (iI 0)), (0, .ref h)]) (pc := 3) C dX2_countFalls_3 (by decide) rfl ?_
  have L4 : ∀ (n : Nat) (i : Nat), 24 < i + n → i ≤ 24 → Z l X G Y 3 0 0 4 [(0, .ref h), (1, .int (iI ((zct (fun t => zB (zfall b t)) 0 (64 * i))))), (2, .int (iI ((i : Int))))] [] [(h, .inr (2, [.ref a1, .ref a2, .ref a3, .int (iI ((e : Int))), .int (iI ((k : Int)))])), cL G a1 24 (zrw b), cI G a2 37 W, cI G a3 5 S] := by
    intro n
    induction n with
    | zero => intro i hn hi; exact absurd hn (by omega)
    | succ n ih =>
      intro i hn hi
      refine z_iload_n (pc := 4) C dX2_countFalls_4 2 rfl ?_
      refine z_bipush (pc := 5) C dX2_countFalls_5 (by decide +kernel) ?_
      refine z_icmp_ge (tgt := 27) (pc := 7) C dX2_countFalls_7 (by decide) ⟨by omega, by omega⟩ (by decide) (fun c7 => ?_) (fun c7 => ?_)
      · obtain rfl : i = 24 := by omega
        refine z_iload_n (pc := 27) C dX2_countFalls_27 1 rfl ?_
        refine z_topi (y := (zcf b e)) (zcf_all hb (by omega)) ?_
        exact z_iret (pc := 28) C R0 dX2_countFalls_28 (⟨rfl, rfl⟩)
      · refine z_iload_n (pc := 10) C dX2_countFalls_10 1 rfl ?_
        refine z_aload_n (pc := 11) C dX2_countFalls_11 0 rfl ?_
        refine z_iload_n (pc := 12) C dX2_countFalls_12 2 rfl ?_
        refine z_callV (As := [.int (iI ((i : Int)))]) (rest := [.int (iI ((zct (fun t => zB (zfall b t)) 0 (64 * i))))]) (wc := [(h, .inr (2, [.ref a1, .ref a2, .ref a3, .int (iI ((e : Int))), .int (iI ((k : Int)))])), cL G a1 24 (zrw b), cI G a2 37 W, cI G a3 5 S]) (wr := []) (fs := [.ref a1, .ref a2, .ref a3, .int (iI ((e : Int))), .int (iI ((k : Int)))]) (pc := 13) C dX2_countFalls_13 (k_X2_fallsIn l G h a1 a2 a3 b W S e k hI (i : Int) i rfl (by omega)) gX2_countFalls_X2_fallsIn ⟨⟨_, rfl⟩, ⟨rfl, rfl⟩, nyX2_fallsIn, ⟨Nat.le_of_ble_eq_true rfl, Nat.le_of_ble_eq_true rfl⟩⟩ rfl zCl2 rfl (fun h => h) rfl (Nat.le_of_ble_eq_true rfl) [0, 1, 2, 3] [] rfl rfl (by decide) (by decide) (by decide) ⟨Nat.le_of_ble_eq_true rfl, Nat.le_of_ble_eq_true rfl⟩ (fun v w hk => ?_)
        obtain ⟨rfl, rfl⟩ := hk
        refine z_fix (pc2 := 16) (st2 := [.long ((zrw (zfall b) i)), .int (iI ((zct (fun t => zB (zfall b t)) 0 (64 * i))))]) (ws' := [(h, .inr (2, [.ref a1, .ref a2, .ref a3, .int (iI ((e : Int))), .int (iI ((k : Int)))])), cL G a1 24 (zrw b), cI G a2 37 W, cI G a3 5 S]) [0, 1, 2, 3] rfl rfl rfl (by decide) ?_
        refine z_callS (As := [.long ((zrw (zfall b) i))]) (rest := [.int (iI ((zct (fun t => zB (zfall b t)) 0 (64 * i))))]) (wc := []) (wr := [(h, .inr (2, [.ref a1, .ref a2, .ref a3, .int (iI ((e : Int))), .int (iI ((k : Int)))])), cL G a1 24 (zrw b), cI G a2 37 W, cI G a3 5 S]) (pc := 16) C dX2_countFalls_16 (k_J13_bitCount_95d88 l G (zrw (zfall b) i) ) gX2_countFalls_J13_bitCount_95d88 ⟨⟨_, rfl⟩, ⟨rfl, rfl⟩, nyJ13_bitCount_95d88, ⟨Nat.le_of_ble_eq_true rfl, Nat.le_of_ble_eq_true rfl⟩⟩ (fun h => h) rfl (Nat.le_of_ble_eq_true rfl) [] [0, 1, 2, 3] rfl rfl (by decide) (by decide) (by decide) ⟨Nat.le_of_ble_eq_true rfl, Nat.le_of_ble_eq_true rfl⟩ (fun v w hk => ?_)
        obtain ⟨rfl, rfl⟩ := hk
        refine z_fix (pc2 := 19) (st2 := [.int ((jpl (zrw (zfall b) i))), .int (iI ((zct (fun t => zB (zfall b t)) 0 (64 * i))))]) (ws' := [(h, .inr (2, [.ref a1, .ref a2, .ref a3, .int (iI ((e : Int))), .int (iI ((k : Int)))])), cL G a1 24 (zrw b), cI G a2 37 W, cI G a3 5 S]) [0, 1, 2, 3] rfl rfl rfl (by decide) ?_
        refine z_top (y := iI (zct (fun t => zB (zfall b t)) (64 * i) 64)) (jpl_row _ _) ?_
        refine z_iadd (pc := 19) C dX2_countFalls_19 ?_
        refine z_topi (y := (zct (fun t => zB (zfall b t)) 0 (64 * (i + 1)))) (by rw [show 64 * (i + 1) = 64 * i + 64 by omega, zct_add, Nat.zero_add]) ?_
        refine z_istore_n (lv' := [(1, .int (iI ((zct (fun t => zB (zfall b t)) 0 (64 * (i + 1)))))), (0, .ref h), (2, .int (iI ((i : Int))))]) (pc := 20) C dX2_countFalls_20 (by decide) rfl ?_
        refine z_iinc (lv' := [(2, .int (iI (((i : Int) + 1)))), (1, .int (iI ((zct (fun t => zB (zfall b t)) 0 (64 * (i + 1)))))), (0, .ref h)]) (pc := 21) C dX2_countFalls_21 2 rfl (by decide) rfl ?_
        refine z_goto (tgt := 4) (pc := 24) C dX2_countFalls_24 (by decide) ?_
        refine z_lv (lv' := [(0, .ref h), (1, .int (iI ((zct (fun t => zB (zfall b t)) 0 (64 * (i + 1)))))), (2, .int (iI (((i : Int) + 1))))]) [2, 1, 0] rfl ?_
        exact ih (i + 1) (by omega) (by omega)
  refine z_lv (lv' := [(0, .ref h), (1, .int (iI 0)), (2, .int (iI 0))]) [2, 1, 0] rfl ?_
  exact L4 25 0 (by omega) (by omega)

theorem ffX2_countLowTicks_11 : zFF wsX2_countLowTicks RX2 11 RX2 TX2 5 0 := ⟨by decide +kernel, by decide, by decide +kernel⟩
set_option maxHeartbeats 4000000 in
set_option maxRecDepth 100000 in
theorem k_X2_countLowTicks (l : Launch) (G : ZG) (h a1 a2 a3 : Nat) (b : Nat → Bool) (W S : Nat → Int) (e k : Nat) (hI : zI b W S e k) : Kt l G yX2_countLowTicks wsX2_countLowTicks { frames := 1, cells := 0, slots := 0, locals := 21 } 0 0 False [.ref h] [(h, .inr (2, [.ref a1, .ref a2, .ref a3, .int (iI ((e : Int))), .int (iI ((k : Int)))])), cL G a1 24 (zrw b), cI G a2 37 W, cI G a3 5 S] (fun v9 w9 => v9 = some (.int (iI ((zcl b e)))) ∧ w9 = [(h, .inr (2, [.ref a1, .ref a2, .ref a3, .int (iI ((e : Int))), .int (iI ((k : Int)))])), cL G a1 24 (zrw b), cI G a2 37 W, cI G a3 5 S]) := by
  refine Kt.of (cc := cX2_countLowTicks) (nL := 3) (ret := (some .int)) (own := RX2) rfl (by decide +kernel) rfl (Nat.le_of_ble_eq_true rfl) ?_
  intro X Y C R0 hin
  show Z l X G Y 3 0 0 0 [(0, .ref h)] [] [(h, .inr (2, [.ref a1, .ref a2, .ref a3, .int (iI ((e : Int))), .int (iI ((k : Int)))])), cL G a1 24 (zrw b), cI G a2 37 W, cI G a3 5 S]
  obtain ⟨he, hk, hb, s0, s1, s2, s3, s4, hw⟩ := id hI
  refine z_iconst (pc := 0) C dX2_countLowTicks_0 ?_
  refine z_istore_n (lv' := [(1, .int (iI 0)), (0, .ref h)]) (pc := 1) C dX2_countLowTicks_1 (by decide) rfl ?_
  refine z_iconst (pc := 2) C dX2_countLowTicks_2 ?_
  refine z_istore_n (lv' := [(2, .int (iI 0)), (1, .int (iI 0)), (0, .ref h)]) (pc := 3) C dX2_countLowTicks_3 (by decide) rfl ?_
  have L4 : ∀ (n : Nat) (i : Nat), 24 < i + n → i ≤ 24 → Z l X G Y 3 0 0 4 [(0, .ref h), (1, .int (iI ((zct (fun t => zB (!b t)) 0 (64 * i))))), (2, .int (iI ((i : Int))))] [] [(h, .inr (2, [.ref a1, .ref a2, .ref a3, .int (iI ((e : Int))), .int (iI ((k : Int)))])), cL G a1 24 (zrw b), cI G a2 37 W, cI G a3 5 S] := by
    intro n
    induction n with
    | zero => intro i hn hi; exact absurd hn (by omega)
    | succ n ih =>
      intro i hn hi
      refine z_iload_n (pc := 4) C dX2_countLowTicks_4 2 rfl ?_
      refine z_bipush (pc := 5) C dX2_countLowTicks_5 (by decide +kernel) ?_
      refine z_icmp_ge (tgt := 32) (pc := 7) C dX2_countLowTicks_7 (by decide) ⟨by omega, by omega⟩ (by decide) (fun c7 => ?_) (fun c7 => ?_)
      · obtain rfl : i = 24 := by omega
        refine z_iload_n (pc := 32) C dX2_countLowTicks_32 1 rfl ?_
        refine z_topi (y := (zcl b e)) (zcl_all hb (by omega)) ?_
        exact z_iret (pc := 33) C R0 dX2_countLowTicks_33 (⟨rfl, rfl⟩)
      · refine z_iload_n (pc := 10) C dX2_countLowTicks_10 1 rfl ?_
        refine z_aload_n (pc := 11) C dX2_countLowTicks_11 0 rfl ?_
        refine z_get (pc := 12) C dX2_countLowTicks_12 zCl2 ffX2_countLowTicks_11 0 rfl rfl ?_
        refine z_iload_n (pc := 15) C dX2_countLowTicks_15 2 rfl ?_
        refine z_lald (pc := 16) C dX2_countLowTicks_16 1 rfl (i) (by omega) (by omega) (by decide) ?_
        refine z_ldc2 (v := -1) (pc := 17) C dX2_countLowTicks_17 (by decide +kernel) ?_
        refine z_lxor (pc := 20) C dX2_countLowTicks_20 ?_
        refine z_topl (y := (zrw (fun t => !b t) i)) (zrw_not b i) ?_
        refine z_callS (As := [.long ((zrw (fun t => !b t) i))]) (rest := [.int (iI ((zct (fun t => zB (!b t)) 0 (64 * i))))]) (wc := []) (wr := [(h, .inr (2, [.ref a1, .ref a2, .ref a3, .int (iI ((e : Int))), .int (iI ((k : Int)))])), cL G a1 24 (zrw b), cI G a2 37 W, cI G a3 5 S]) (pc := 21) C dX2_countLowTicks_21 (k_J13_bitCount_95d88 l G (zrw (fun t => !b t) i) ) gX2_countLowTicks_J13_bitCount_95d88 ⟨⟨_, rfl⟩, ⟨rfl, rfl⟩, nyJ13_bitCount_95d88, ⟨Nat.le_of_ble_eq_true rfl, Nat.le_of_ble_eq_true rfl⟩⟩ (fun h => h) rfl (Nat.le_of_ble_eq_true rfl) [] [0, 1, 2, 3] rfl rfl (by decide) (by decide) (by decide) ⟨Nat.le_of_ble_eq_true rfl, Nat.le_of_ble_eq_true rfl⟩ (fun v w hk => ?_)
        obtain ⟨rfl, rfl⟩ := hk
        refine z_fix (pc2 := 24) (st2 := [.int ((jpl (zrw (fun t => !b t) i))), .int (iI ((zct (fun t => zB (!b t)) 0 (64 * i))))]) (ws' := [(h, .inr (2, [.ref a1, .ref a2, .ref a3, .int (iI ((e : Int))), .int (iI ((k : Int)))])), cL G a1 24 (zrw b), cI G a2 37 W, cI G a3 5 S]) [0, 1, 2, 3] rfl rfl rfl (by decide) ?_
        refine z_top (y := iI (zct (fun t => zB (!b t)) (64 * i) 64)) (jpl_row _ _) ?_
        refine z_iadd (pc := 24) C dX2_countLowTicks_24 ?_
        refine z_topi (y := (zct (fun t => zB (!b t)) 0 (64 * (i + 1)))) (by rw [show 64 * (i + 1) = 64 * i + 64 by omega, zct_add, Nat.zero_add]) ?_
        refine z_istore_n (lv' := [(1, .int (iI ((zct (fun t => zB (!b t)) 0 (64 * (i + 1)))))), (0, .ref h), (2, .int (iI ((i : Int))))]) (pc := 25) C dX2_countLowTicks_25 (by decide) rfl ?_
        refine z_iinc (lv' := [(2, .int (iI (((i : Int) + 1)))), (1, .int (iI ((zct (fun t => zB (!b t)) 0 (64 * (i + 1)))))), (0, .ref h)]) (pc := 26) C dX2_countLowTicks_26 2 rfl (by decide) rfl ?_
        refine z_goto (tgt := 4) (pc := 29) C dX2_countLowTicks_29 (by decide) ?_
        refine z_lv (lv' := [(0, .ref h), (1, .int (iI ((zct (fun t => zB (!b t)) 0 (64 * (i + 1)))))), (2, .int (iI (((i : Int) + 1))))]) [2, 1, 0] rfl ?_
        exact ih (i + 1) (by omega) (by omega)
  refine z_lv (lv' := [(0, .ref h), (1, .int (iI 0)), (2, .int (iI 0))]) [2, 1, 0] rfl ?_
  exact L4 25 0 (by omega) (by omega)

theorem nyX2_fallOfRank : yX2_fallOfRank.cls ≠ "java/lang/invoke/MethodHandle" ∧ yX2_fallOfRank.cls ≠ "java/lang/invoke/VarHandle" ∧ (parseMethodDescriptor yX2_fallOfRank.desc).map (fun d => d.parameters.length) = some 1 := by decide +kernel
set_option maxHeartbeats 4000000 in
set_option maxRecDepth 100000 in
theorem k_X2_learnedLength (l : Launch) (G : ZG) (h a1 a2 a3 : Nat) (b : Nat → Bool) (W S : Nat → Int) (e k : Nat) (hI : zI b W S e k) : Kt l G yX2_learnedLength wsX2_learnedLength { frames := 3, cells := 0, slots := 0, locals := 75 } 0 0 False [.ref h] [(h, .inr (2, [.ref a1, .ref a2, .ref a3, .int (iI ((e : Int))), .int (iI ((k : Int)))])), cL G a1 24 (zrw b), cI G a2 37 W, cI G a3 5 S] (fun v9 w9 => v9 = some (.int (iI ((zlearn b e)))) ∧ w9 = [(h, .inr (2, [.ref a1, .ref a2, .ref a3, .int (iI ((e : Int))), .int (iI ((k : Int)))])), cL G a1 24 (zrw b), cI G a2 37 W, cI G a3 5 S]) := by
  refine Kt.of (cc := cX2_learnedLength) (nL := 4) (ret := (some .int)) (own := RX2) rfl (by decide +kernel) rfl (Nat.le_of_ble_eq_true rfl) ?_
  intro X Y C R0 hin
  show Z l X G Y 4 0 0 0 [(0, .ref h)] [] [(h, .inr (2, [.ref a1, .ref a2, .ref a3, .int (iI ((e : Int))), .int (iI ((k : Int)))])), cL G a1 24 (zrw b), cI G a2 37 W, cI G a3 5 S]
  obtain ⟨he, hk, hb, s0, s1, s2, s3, s4, hw⟩ := id hI
  refine z_aload_n (pc := 0) C dX2_learnedLength_0 0 rfl ?_
  refine z_iconst (pc := 1) C dX2_learnedLength_1 ?_
  refine z_callV (As := [.int (iI 4)]) (rest := []) (wc := [(h, .inr (2, [.ref a1, .ref a2, .ref a3, .int (iI ((e : Int))), .int (iI ((k : Int)))])), cL G a1 24 (zrw b), cI G a2 37 W, cI G a3 5 S]) (wr := []) (fs := [.ref a1, .ref a2, .ref a3, .int (iI ((e : Int))), .int (iI ((k : Int)))]) (pc := 2) C dX2_learnedLength_2 (k_X2_fallOfRank l G h a1 a2 a3 b W S e k hI 4 4 rfl (by decide)) gX2_learnedLength_X2_fallOfRank ⟨⟨_, rfl⟩, ⟨rfl, rfl⟩, nyX2_fallOfRank, ⟨Nat.le_of_ble_eq_true rfl, Nat.le_of_ble_eq_true rfl⟩⟩ rfl zCl2 rfl (fun h => h) rfl (Nat.le_of_ble_eq_true rfl) [0, 1, 2, 3] [] rfl rfl (by decide) (by decide) (by decide) ⟨Nat.le_of_ble_eq_true rfl, Nat.le_of_ble_eq_true rfl⟩ (fun v w hk => ?_)
  obtain ⟨rfl, rfl⟩ := hk
  refine z_fix (pc2 := 5) (st2 := [.int (iI ((zfr b e 4)))]) (ws' := [(h, .inr (2, [.ref a1, .ref a2, .ref a3, .int (iI ((e : Int))), .int (iI ((k : Int)))])), cL G a1 24 (zrw b), cI G a2 37 W, cI G a3 5 S]) [0, 1, 2, 3] rfl rfl rfl (by decide) ?_
  have f4 := zfr_b (b := b) (r := 4) he
  have f0 := zfr_b (b := b) (r := 0) he
  refine z_istore_n (lv' := [(1, .int (iI ((zfr b e 4)))), (0, .ref h)]) (pc := 5) C dX2_learnedLength_5 (by decide) rfl ?_
  refine z_iload_n (pc := 6) C dX2_learnedLength_6 0 rfl ?_
  refine z_bipush (pc := 7) C dX2_learnedLength_7 (by decide +kernel) ?_
  refine z_icmp_ne (tgt := 15) (pc := 9) C dX2_learnedLength_9 (by decide) ⟨by omega, by omega⟩ (by decide) (fun c9 => ?_) (fun c9 => ?_)
  · have f5 := zfr_04 c9
    refine z_iload_n (pc := 15) C dX2_learnedLength_15 0 rfl ?_
    refine z_aload_n (pc := 16) C dX2_learnedLength_16 1 rfl ?_
    refine z_iconst (pc := 17) C dX2_learnedLength_17 ?_
    refine z_callV (As := [.int (iI 0)]) (rest := [.int (iI ((zfr b e 4)))]) (wc := [(h, .inr (2, [.ref a1, .ref a2, .ref a3, .int (iI ((e : Int))), .int (iI ((k : Int)))])), cL G a1 24 (zrw b), cI G a2 37 W, cI G a3 5 S]) (wr := []) (fs := [.ref a1, .ref a2, .ref a3, .int (iI ((e : Int))), .int (iI ((k : Int)))]) (pc := 18) C dX2_learnedLength_18 (k_X2_fallOfRank l G h a1 a2 a3 b W S e k hI 0 0 rfl (by decide)) gX2_learnedLength_X2_fallOfRank ⟨⟨_, rfl⟩, ⟨rfl, rfl⟩, nyX2_fallOfRank, ⟨Nat.le_of_ble_eq_true rfl, Nat.le_of_ble_eq_true rfl⟩⟩ rfl zCl2 rfl (fun h => h) rfl (Nat.le_of_ble_eq_true rfl) [0, 1, 2, 3] [] rfl rfl (by decide) (by decide) (by decide) ⟨Nat.le_of_ble_eq_true rfl, Nat.le_of_ble_eq_true rfl⟩ (fun v w hk => ?_)
    obtain ⟨rfl, rfl⟩ := hk
    refine z_fix (pc2 := 21) (st2 := [.int (iI ((zfr b e 0))), .int (iI ((zfr b e 4)))]) (ws' := [(h, .inr (2, [.ref a1, .ref a2, .ref a3, .int (iI ((e : Int))), .int (iI ((k : Int)))])), cL G a1 24 (zrw b), cI G a2 37 W, cI G a3 5 S]) [0, 1, 2, 3] rfl rfl rfl (by decide) ?_
    refine z_isub (pc := 21) C dX2_learnedLength_21 ?_
    refine z_iconst (pc := 22) C dX2_learnedLength_22 ?_
    refine z_iadd (pc := 23) C dX2_learnedLength_23 ?_
    refine z_istore_n (lv' := [(2, .int (iI ((((zfr b e 4) - (zfr b e 0)) + 4)))), (1, .int (iI ((zfr b e 4)))), (0, .ref h)]) (pc := 24) C dX2_learnedLength_24 (by decide) rfl ?_
    refine z_iload_n (pc := 25) C dX2_learnedLength_25 0 rfl ?_
    refine z_bipush (pc := 26) C dX2_learnedLength_26 (by decide +kernel) ?_
    refine z_idiv (pc := 28) C dX2_learnedLength_28 ⟨by omega, by omega⟩ (by decide) ?_
    refine z_istore_n (lv' := [(3, .int (iI (((((zfr b e 4) - (zfr b e 0)) + 4) / 8)))), (2, .int (iI ((((zfr b e 4) - (zfr b e 0)) + 4)))), (1, .int (iI ((zfr b e 4)))), (0, .ref h)]) (pc := 29) C dX2_learnedLength_29 (by decide) rfl ?_
    refine z_iload_n (pc := 30) C dX2_learnedLength_30 0 rfl ?_
    refine z_iconst (pc := 31) C dX2_learnedLength_31 ?_
    refine z_icmp_lt (tgt := 41) (pc := 32) C dX2_learnedLength_32 (by decide) ⟨by omega, by omega⟩ (by decide) (fun c32 => ?_) (fun c32 => ?_)
    · refine z_bipush (pc := 41) C dX2_learnedLength_41 (by decide +kernel) ?_
      refine z_goto (tgt := 47) (pc := 43) C dX2_learnedLength_43 (by decide) ?_
      refine z_topi (y := (zlearn b e)) (by unfold zlearn; rw [if_neg c9, if_neg (by omega)]) ?_
      exact z_iret (pc := 47) C R0 dX2_learnedLength_47 (⟨rfl, rfl⟩)
    · refine z_iload_n (pc := 35) C dX2_learnedLength_35 0 rfl ?_
      refine z_bipush (pc := 36) C dX2_learnedLength_36 (by decide +kernel) ?_
      refine z_icmp_le (tgt := 46) (pc := 38) C dX2_learnedLength_38 (by decide) ⟨by omega, by omega⟩ (by decide) (fun c38 => ?_) (fun c38 => ?_)
      · refine z_iload_n (pc := 46) C dX2_learnedLength_46 0 rfl ?_
        refine z_topi (y := (zlearn b e)) (by unfold zlearn; rw [if_neg c9, if_pos (by omega)]) ?_
        exact z_iret (pc := 47) C R0 dX2_learnedLength_47 (⟨rfl, rfl⟩)
      · refine z_bipush (pc := 41) C dX2_learnedLength_41 (by decide +kernel) ?_
        refine z_goto (tgt := 47) (pc := 43) C dX2_learnedLength_43 (by decide) ?_
        refine z_topi (y := (zlearn b e)) (by unfold zlearn; rw [if_neg c9, if_neg (by omega)]) ?_
        exact z_iret (pc := 47) C R0 dX2_learnedLength_47 (⟨rfl, rfl⟩)
  · refine z_bipush (pc := 12) C dX2_learnedLength_12 (by decide +kernel) ?_
    refine z_topi (y := (zlearn b e)) (by unfold zlearn; rw [if_pos c9]) ?_
    exact z_iret (pc := 14) C R0 dX2_learnedLength_14 (⟨rfl, rfl⟩)

theorem ffX2_copyFrom_11 : zFF wsX2_copyFrom RX2 11 RX2 TX2 5 0 := ⟨by decide +kernel, by decide, by decide +kernel⟩
theorem ffX2_copyFrom_15 : zFF wsX2_copyFrom RX2 15 RX2 TX2 5 1 := ⟨by decide +kernel, by decide, by decide +kernel⟩
theorem ffX2_copyFrom_19 : zFF wsX2_copyFrom RX2 19 RX2 TX2 5 2 := ⟨by decide +kernel, by decide, by decide +kernel⟩
theorem ffX2_copyFrom_39 : zFF wsX2_copyFrom RX2 39 RX2 TX2 5 3 := ⟨by decide +kernel, by decide, by decide +kernel⟩
theorem ffX2_copyFrom_43 : zFF wsX2_copyFrom RX2 43 RX2 TX2 5 4 := ⟨by decide +kernel, by decide, by decide +kernel⟩
set_option maxHeartbeats 4000000 in
set_option maxRecDepth 100000 in
theorem k_X2_copyFrom (l : Launch) (G : ZG) (h a1 a2 a3 : Nat) (b : Nat → Bool) (W S : Nat → Int) (e k : Nat) (oh oa1 oa2 oa3 : Nat) (ob : Nat → Bool) (oW oS : Nat → Int) (oe ok : Nat) : Kt l G yX2_copyFrom wsX2_copyFrom { frames := 1, cells := 0, slots := 0, locals := 24 } 0 0 False [.ref h, .ref oh] [(h, .inr (2, [.ref a1, .ref a2, .ref a3, .int (iI ((e : Int))), .int (iI ((k : Int)))])), cL G a1 24 (zrw b), cI G a2 37 W, cI G a3 5 S, (oh, .inr (2, [.ref oa1, .ref oa2, .ref oa3, .int (iI ((oe : Int))), .int (iI ((ok : Int)))])), cL G oa1 24 (zrw ob), cI G oa2 37 oW, cI G oa3 5 oS] (fun v9 w9 => v9 = none ∧ w9 = [(h, .inr (2, [.ref a1, .ref a2, .ref a3, .int (iI ((oe : Int))), .int (iI ((ok : Int)))])), cL G a1 24 (zrw ob), cI G a2 37 oW, cI G a3 5 oS, (oh, .inr (2, [.ref oa1, .ref oa2, .ref oa3, .int (iI ((oe : Int))), .int (iI ((ok : Int)))])), cL G oa1 24 (zrw ob), cI G oa2 37 oW, cI G oa3 5 oS]) := by
  refine Kt.of (cc := cX2_copyFrom) (nL := 2) (ret := none) (own := RX2) rfl (by decide +kernel) rfl (Nat.le_of_ble_eq_true rfl) ?_
  intro X Y C R0 hin
  show Z l X G Y 2 0 0 0 [(0, .ref h), (1, .ref oh)] [] [(h, .inr (2, [.ref a1, .ref a2, .ref a3, .int (iI ((e : Int))), .int (iI ((k : Int)))])), cL G a1 24 (zrw b), cI G a2 37 W, cI G a3 5 S, (oh, .inr (2, [.ref oa1, .ref oa2, .ref oa3, .int (iI ((oe : Int))), .int (iI ((ok : Int)))])), cL G oa1 24 (zrw ob), cI G oa2 37 oW, cI G oa3 5 oS]
  refine z_aload_n (pc := 0) C dX2_copyFrom_0 1 rfl ?_
  refine z_get (pc := 1) C dX2_copyFrom_1 zCl2 ffX2_copyFrom_11 4 rfl rfl ?_
  refine z_iconst (pc := 4) C dX2_copyFrom_4 ?_
  refine z_aload_n (pc := 5) C dX2_copyFrom_5 0 rfl ?_
  refine z_get (pc := 6) C dX2_copyFrom_6 zCl2 ffX2_copyFrom_11 0 rfl rfl ?_
  refine z_iconst (pc := 9) C dX2_copyFrom_9 ?_
  refine z_bipush (pc := 10) C dX2_copyFrom_10 (by decide +kernel) ?_
  refine z_copyL (ws' := [(h, .inr (2, [.ref a1, .ref a2, .ref a3, .int (iI ((e : Int))), .int (iI ((k : Int)))])), cL G a1 24 (zrw ob), cI G a2 37 W, cI G a3 5 S, (oh, .inr (2, [.ref oa1, .ref oa2, .ref oa3, .int (iI ((oe : Int))), .int (iI ((ok : Int)))])), cL G oa1 24 (zrw ob), cI G oa2 37 oW, cI G oa3 5 oS]) (pc := 12) C dX2_copyFrom_12 (by decide +kernel) (by decide +kernel) (by decide +kernel) (by decide +kernel) (by decide) (Nat.le_of_ble_eq_true rfl) rfl (by decide) 5 1 rfl rfl rfl ?_
  refine z_aload_n (pc := 15) C dX2_copyFrom_15 1 rfl ?_
  refine z_get (pc := 16) C dX2_copyFrom_16 zCl2 ffX2_copyFrom_15 4 rfl rfl ?_
  refine z_iconst (pc := 19) C dX2_copyFrom_19 ?_
  refine z_aload_n (pc := 20) C dX2_copyFrom_20 0 rfl ?_
  refine z_get (pc := 21) C dX2_copyFrom_21 zCl2 ffX2_copyFrom_15 0 rfl rfl ?_
  refine z_iconst (pc := 24) C dX2_copyFrom_24 ?_
  refine z_bipush (pc := 25) C dX2_copyFrom_25 (by decide +kernel) ?_
  refine z_copyI (ws' := [(h, .inr (2, [.ref a1, .ref a2, .ref a3, .int (iI ((e : Int))), .int (iI ((k : Int)))])), cL G a1 24 (zrw ob), cI G a2 37 oW, cI G a3 5 S, (oh, .inr (2, [.ref oa1, .ref oa2, .ref oa3, .int (iI ((oe : Int))), .int (iI ((ok : Int)))])), cL G oa1 24 (zrw ob), cI G oa2 37 oW, cI G oa3 5 oS]) (pc := 27) C dX2_copyFrom_27 (by decide +kernel) (by decide +kernel) (by decide +kernel) (by decide +kernel) (by decide) (Nat.le_of_ble_eq_true rfl) rfl (by decide) 6 2 rfl rfl rfl ?_
  refine z_aload_n (pc := 30) C dX2_copyFrom_30 1 rfl ?_
  refine z_get (pc := 31) C dX2_copyFrom_31 zCl2 ffX2_copyFrom_19 4 rfl rfl ?_
  refine z_iconst (pc := 34) C dX2_copyFrom_34 ?_
  refine z_aload_n (pc := 35) C dX2_copyFrom_35 0 rfl ?_
  refine z_get (pc := 36) C dX2_copyFrom_36 zCl2 ffX2_copyFrom_19 0 rfl rfl ?_
  refine z_iconst (pc := 39) C dX2_copyFrom_39 ?_
  refine z_iconst (pc := 40) C dX2_copyFrom_40 ?_
  refine z_copyI (ws' := [(h, .inr (2, [.ref a1, .ref a2, .ref a3, .int (iI ((e : Int))), .int (iI ((k : Int)))])), cL G a1 24 (zrw ob), cI G a2 37 oW, cI G a3 5 oS, (oh, .inr (2, [.ref oa1, .ref oa2, .ref oa3, .int (iI ((oe : Int))), .int (iI ((ok : Int)))])), cL G oa1 24 (zrw ob), cI G oa2 37 oW, cI G oa3 5 oS]) (pc := 41) C dX2_copyFrom_41 (by decide +kernel) (by decide +kernel) (by decide +kernel) (by decide +kernel) (by decide) (Nat.le_of_ble_eq_true rfl) rfl (by decide) 7 3 rfl rfl rfl ?_
  refine z_aload_n (pc := 44) C dX2_copyFrom_44 0 rfl ?_
  refine z_aload_n (pc := 45) C dX2_copyFrom_45 1 rfl ?_
  refine z_get (pc := 46) C dX2_copyFrom_46 zCl2 ffX2_copyFrom_39 4 rfl rfl ?_
  refine z_put (ty := .int) (ws' := [(h, .inr (2, [.ref a1, .ref a2, .ref a3, .int (iI ((oe : Int))), .int (iI ((k : Int)))])), cL G a1 24 (zrw ob), cI G a2 37 oW, cI G a3 5 oS, (oh, .inr (2, [.ref oa1, .ref oa2, .ref oa3, .int (iI ((oe : Int))), .int (iI ((ok : Int)))])), cL G oa1 24 (zrw ob), cI G oa2 37 oW, cI G oa3 5 oS]) (pc := 49) C dX2_copyFrom_49 zCl2 ffX2_copyFrom_39 0 rfl rfl rfl rfl rfl (Nat.le_of_ble_eq_true rfl) rfl ?_
  refine z_aload_n (pc := 52) C dX2_copyFrom_52 0 rfl ?_
  refine z_aload_n (pc := 53) C dX2_copyFrom_53 1 rfl ?_
  refine z_get (pc := 54) C dX2_copyFrom_54 zCl2 ffX2_copyFrom_43 4 rfl rfl ?_
  refine z_put (ty := .int) (ws' := [(h, .inr (2, [.ref a1, .ref a2, .ref a3, .int (iI ((oe : Int))), .int (iI ((ok : Int)))])), cL G a1 24 (zrw ob), cI G a2 37 oW, cI G a3 5 oS, (oh, .inr (2, [.ref oa1, .ref oa2, .ref oa3, .int (iI ((oe : Int))), .int (iI ((ok : Int)))])), cL G oa1 24 (zrw ob), cI G oa2 37 oW, cI G oa3 5 oS]) (pc := 57) C dX2_copyFrom_57 zCl2 ffX2_copyFrom_43 0 rfl rfl rfl rfl rfl (Nat.le_of_ble_eq_true rfl) rfl ?_
  exact z_vret (pc := 60) C R0 dX2_copyFrom_60 (⟨rfl, rfl⟩)

theorem nyX2_ticksOfWord : yX2_ticksOfWord.cls ≠ "java/lang/invoke/MethodHandle" ∧ yX2_ticksOfWord.cls ≠ "java/lang/invoke/VarHandle" ∧ (parseMethodDescriptor yX2_ticksOfWord.desc).map (fun d => d.parameters.length) = some 0 := by decide +kernel
theorem nyX2_hasRoom : yX2_hasRoom.cls ≠ "java/lang/invoke/MethodHandle" ∧ yX2_hasRoom.cls ≠ "java/lang/invoke/VarHandle" ∧ (parseMethodDescriptor yX2_hasRoom.desc).map (fun d => d.parameters.length) = some 1 := by decide +kernel
set_option maxHeartbeats 4000000 in
set_option maxRecDepth 100000 in
theorem k_X2_addWord_f (l : Launch) (G : ZG) (h a1 a2 a3 : Nat) (b : Nat → Bool) (W S : Nat → Int) (e k : Nat) (hI : zI b W S e k) (w : Nat) (hw8 : w ≤ 255) (hr : 1500 - (e : Int) < ztk S) : Kt l G yX2_addWord wsX2_addWord { frames := 3, cells := 0, slots := 0, locals := 65 } 0 0 False [.ref h, .int (iI ((w : Int)))] [(h, .inr (2, [.ref a1, .ref a2, .ref a3, .int (iI ((e : Int))), .int (iI ((k : Int)))])), cL G a1 24 (zrw b), cI G a2 37 W, cI G a3 5 S] (fun v9 w9 => v9 = some (.int (iI 0)) ∧ w9 = [(h, .inr (2, [.ref a1, .ref a2, .ref a3, .int (iI ((e : Int))), .int (iI ((k : Int)))])), cL G a1 24 (zrw b), cI G a2 37 W, cI G a3 5 S]) := by
  refine Kt.of (cc := cX2_addWord) (nL := 7) (ret := (some .boolean)) (own := RX2) rfl (by decide +kernel) rfl (Nat.le_of_ble_eq_true rfl) ?_
  intro X Y C R0 hin
  show Z l X G Y 7 0 0 0 [(0, .ref h), (1, .int (iI ((w : Int))))] [] [(h, .inr (2, [.ref a1, .ref a2, .ref a3, .int (iI ((e : Int))), .int (iI ((k : Int)))])), cL G a1 24 (zrw b), cI G a2 37 W, cI G a3 5 S]
  obtain ⟨he, hk, hb, s0, s1, s2, s3, s4, hw⟩ := id hI
  refine z_aload_n (pc := 0) C dX2_addWord_0 0 rfl ?_
  refine z_callV (As := []) (rest := []) (wc := [(h, .inr (2, [.ref a1, .ref a2, .ref a3, .int (iI ((e : Int))), .int (iI ((k : Int)))])), cL G a1 24 (zrw b), cI G a2 37 W, cI G a3 5 S]) (wr := []) (fs := [.ref a1, .ref a2, .ref a3, .int (iI ((e : Int))), .int (iI ((k : Int)))]) (pc := 1) C dX2_addWord_1 (k_X2_ticksOfWord l G h a1 a2 a3 b W S e k hI ) gX2_addWord_X2_ticksOfWord ⟨⟨_, rfl⟩, ⟨rfl, rfl⟩, nyX2_ticksOfWord, ⟨Nat.le_of_ble_eq_true rfl, Nat.le_of_ble_eq_true rfl⟩⟩ rfl zCl2 rfl (fun h => h) rfl (Nat.le_of_ble_eq_true rfl) [0, 1, 2, 3] [] rfl rfl (by decide) (by decide) (by decide) ⟨Nat.le_of_ble_eq_true rfl, Nat.le_of_ble_eq_true rfl⟩ (fun v w hk => ?_)
  obtain ⟨rfl, rfl⟩ := hk
  refine z_fix (pc2 := 4) (st2 := [.int (iI ((ztk S)))]) (ws' := [(h, .inr (2, [.ref a1, .ref a2, .ref a3, .int (iI ((e : Int))), .int (iI ((k : Int)))])), cL G a1 24 (zrw b), cI G a2 37 W, cI G a3 5 S]) [0, 1, 2, 3] rfl rfl rfl (by decide) ?_
  have htk := ztk_b s3 s0
  refine z_istore_n (lv' := [(2, .int (iI ((ztk S)))), (0, .ref h), (1, .int (iI ((w : Int))))]) (pc := 4) C dX2_addWord_4 (by decide) rfl ?_
  refine z_aload_n (pc := 5) C dX2_addWord_5 1 rfl ?_
  refine z_iload_n (pc := 6) C dX2_addWord_6 0 rfl ?_
  refine z_callV (As := [.int (iI ((ztk S)))]) (rest := []) (wc := [(h, .inr (2, [.ref a1, .ref a2, .ref a3, .int (iI ((e : Int))), .int (iI ((k : Int)))])), cL G a1 24 (zrw b), cI G a2 37 W, cI G a3 5 S]) (wr := []) (fs := [.ref a1, .ref a2, .ref a3, .int (iI ((e : Int))), .int (iI ((k : Int)))]) (pc := 7) C dX2_addWord_7 (k_X2_hasRoom l G h a1 a2 a3 b W S e k hI (ztk S) ⟨by omega, by omega⟩) gX2_addWord_X2_hasRoom ⟨⟨_, rfl⟩, ⟨rfl, rfl⟩, nyX2_hasRoom, ⟨Nat.le_of_ble_eq_true rfl, Nat.le_of_ble_eq_true rfl⟩⟩ rfl zCl2 rfl (fun h => h) rfl (Nat.le_of_ble_eq_true rfl) [0, 1, 2, 3] [] rfl rfl (by decide) (by decide) (by decide) ⟨Nat.le_of_ble_eq_true rfl, Nat.le_of_ble_eq_true rfl⟩ (fun v w hk => ?_)
  obtain ⟨r_7, h7_0, rfl, rfl⟩ := hk
  refine z_fix (pc2 := 10) (st2 := [.int (iI r_7)]) (ws' := [(h, .inr (2, [.ref a1, .ref a2, .ref a3, .int (iI ((e : Int))), .int (iI ((k : Int)))])), cL G a1 24 (zrw b), cI G a2 37 W, cI G a3 5 S]) [0, 1, 2, 3] rfl rfl rfl (by decide) ?_
  refine z_if_eq (tgt := 22) (pc := 10) C dX2_addWord_10 (by decide) ⟨by omega, by omega⟩ (fun c10 => ?_) (fun c10 => ?_)
  · refine z_iconst (pc := 22) C dX2_addWord_22 ?_
    exact z_zret (pc := 23) C R0 (by decide) dX2_addWord_23 (⟨rfl, rfl⟩)
  · exfalso; omega

theorem ffX2_addWord_43 : zFF wsX2_addWord RX2 43 RX2 TX2 5 4 := ⟨by decide +kernel, by decide, by decide +kernel⟩
theorem nyX2_bitsOf : yX2_bitsOf.cls ≠ "java/lang/invoke/MethodHandle" ∧ yX2_bitsOf.cls ≠ "java/lang/invoke/VarHandle" ∧ (parseMethodDescriptor yX2_bitsOf.desc).map (fun d => d.parameters.length) = some 1 := by decide +kernel
theorem ffX2_addWord_19 : zFF wsX2_addWord RX2 19 RX2 TX2 5 2 := ⟨by decide +kernel, by decide, by decide +kernel⟩
theorem ffX2_addWord_15 : zFF wsX2_addWord RX2 15 RX2 TX2 5 1 := ⟨by decide +kernel, by decide, by decide +kernel⟩
theorem ffX2_addWord_39 : zFF wsX2_addWord RX2 39 RX2 TX2 5 3 := ⟨by decide +kernel, by decide, by decide +kernel⟩
theorem nyX2_putLow : yX2_putLow.cls ≠ "java/lang/invoke/MethodHandle" ∧ yX2_putLow.cls ≠ "java/lang/invoke/VarHandle" ∧ (parseMethodDescriptor yX2_putLow.desc).map (fun d => d.parameters.length) = some 2 := by decide +kernel
set_option maxHeartbeats 4000000 in
set_option maxRecDepth 100000 in
theorem k_X2_addWord_t (l : Launch) (G : ZG) (h a1 a2 a3 : Nat) (b : Nat → Bool) (W S : Nat → Int) (e k : Nat) (hI : zI b W S e k) (w : Nat) (hw8 : w ≤ 255) (hr : ztk S ≤ 1500 - (e : Int)) : Kt l G yX2_addWord wsX2_addWord { frames := 3, cells := 0, slots := 0, locals := 65 } 0 0 False [.ref h, .int (iI ((w : Int)))] [(h, .inr (2, [.ref a1, .ref a2, .ref a3, .int (iI ((e : Int))), .int (iI ((k : Int)))])), cL G a1 24 (zrw b), cI G a2 37 W, cI G a3 5 S] (fun v9 w9 => v9 = some (.int (iI 1)) ∧ w9 = [(h, .inr (2, [.ref a1, .ref a2, .ref a3, .int (iI ((((e + (ztk S).toNat) : Nat) : Int))), .int (iI ((((k + 1) : Nat) : Int)))])), cL G a1 24 (zrw (zaw b S e w (zbn S).toNat)), cI G a2 37 (zU W k (w : Int)), cI G a3 5 S]) := by
  refine Kt.of (cc := cX2_addWord) (nL := 7) (ret := (some .boolean)) (own := RX2) rfl (by decide +kernel) rfl (Nat.le_of_ble_eq_true rfl) ?_
  intro X Y C R0 hin
  show Z l X G Y 7 0 0 0 [(0, .ref h), (1, .int (iI ((w : Int))))] [] [(h, .inr (2, [.ref a1, .ref a2, .ref a3, .int (iI ((e : Int))), .int (iI ((k : Int)))])), cL G a1 24 (zrw b), cI G a2 37 W, cI G a3 5 S]
  obtain ⟨he, hk, hb, s0, s1, s2, s3, s4, hw⟩ := id hI
  refine z_aload_n (pc := 0) C dX2_addWord_0 0 rfl ?_
  refine z_callV (As := []) (rest := []) (wc := [(h, .inr (2, [.ref a1, .ref a2, .ref a3, .int (iI ((e : Int))), .int (iI ((k : Int)))])), cL G a1 24 (zrw b), cI G a2 37 W, cI G a3 5 S]) (wr := []) (fs := [.ref a1, .ref a2, .ref a3, .int (iI ((e : Int))), .int (iI ((k : Int)))]) (pc := 1) C dX2_addWord_1 (k_X2_ticksOfWord l G h a1 a2 a3 b W S e k hI ) gX2_addWord_X2_ticksOfWord ⟨⟨_, rfl⟩, ⟨rfl, rfl⟩, nyX2_ticksOfWord, ⟨Nat.le_of_ble_eq_true rfl, Nat.le_of_ble_eq_true rfl⟩⟩ rfl zCl2 rfl (fun h => h) rfl (Nat.le_of_ble_eq_true rfl) [0, 1, 2, 3] [] rfl rfl (by decide) (by decide) (by decide) ⟨Nat.le_of_ble_eq_true rfl, Nat.le_of_ble_eq_true rfl⟩ (fun v w hk => ?_)
  obtain ⟨rfl, rfl⟩ := hk
  refine z_fix (pc2 := 4) (st2 := [.int (iI ((ztk S)))]) (ws' := [(h, .inr (2, [.ref a1, .ref a2, .ref a3, .int (iI ((e : Int))), .int (iI ((k : Int)))])), cL G a1 24 (zrw b), cI G a2 37 W, cI G a3 5 S]) [0, 1, 2, 3] rfl rfl rfl (by decide) ?_
  have htk := ztk_b s3 s0
  have hbn := zbn_b s3
  have hzb := zbits_b S hw8
  have hpe := zps_tk e s3 s0
  refine z_istore_n (lv' := [(2, .int (iI ((ztk S)))), (0, .ref h), (1, .int (iI ((w : Int))))]) (pc := 4) C dX2_addWord_4 (by decide) rfl ?_
  refine z_aload_n (pc := 5) C dX2_addWord_5 1 rfl ?_
  refine z_iload_n (pc := 6) C dX2_addWord_6 0 rfl ?_
  refine z_callV (As := [.int (iI ((ztk S)))]) (rest := []) (wc := [(h, .inr (2, [.ref a1, .ref a2, .ref a3, .int (iI ((e : Int))), .int (iI ((k : Int)))])), cL G a1 24 (zrw b), cI G a2 37 W, cI G a3 5 S]) (wr := []) (fs := [.ref a1, .ref a2, .ref a3, .int (iI ((e : Int))), .int (iI ((k : Int)))]) (pc := 7) C dX2_addWord_7 (k_X2_hasRoom l G h a1 a2 a3 b W S e k hI (ztk S) ⟨by omega, by omega⟩) gX2_addWord_X2_hasRoom ⟨⟨_, rfl⟩, ⟨rfl, rfl⟩, nyX2_hasRoom, ⟨Nat.le_of_ble_eq_true rfl, Nat.le_of_ble_eq_true rfl⟩⟩ rfl zCl2 rfl (fun h => h) rfl (Nat.le_of_ble_eq_true rfl) [0, 1, 2, 3] [] rfl rfl (by decide) (by decide) (by decide) ⟨Nat.le_of_ble_eq_true rfl, Nat.le_of_ble_eq_true rfl⟩ (fun v w hk => ?_)
  obtain ⟨r_7, h7_0, rfl, rfl⟩ := hk
  refine z_fix (pc2 := 10) (st2 := [.int (iI r_7)]) (ws' := [(h, .inr (2, [.ref a1, .ref a2, .ref a3, .int (iI ((e : Int))), .int (iI ((k : Int)))])), cL G a1 24 (zrw b), cI G a2 37 W, cI G a3 5 S]) [0, 1, 2, 3] rfl rfl rfl (by decide) ?_
  refine z_if_eq (tgt := 22) (pc := 10) C dX2_addWord_10 (by decide) ⟨by omega, by omega⟩ (fun c10 => ?_) (fun c10 => ?_)
  · exfalso; omega
  · refine z_aload_n (pc := 13) C dX2_addWord_13 1 rfl ?_
    refine z_get (pc := 14) C dX2_addWord_14 zCl2 ffX2_addWord_43 0 rfl rfl ?_
    refine z_bipush (pc := 17) C dX2_addWord_17 (by decide +kernel) ?_
    refine z_icmp_lt (tgt := 24) (pc := 19) C dX2_addWord_19 (by decide) ⟨by omega, by omega⟩ (by decide) (fun c19 => ?_) (fun c19 => ?_)
    · refine z_aload_n (pc := 24) C dX2_addWord_24 1 rfl ?_
      refine z_iload_n (pc := 25) C dX2_addWord_25 2 rfl ?_
      refine z_callV (As := [.int (iI ((w : Int)))]) (rest := []) (wc := [(h, .inr (2, [.ref a1, .ref a2, .ref a3, .int (iI ((e : Int))), .int (iI ((k : Int)))])), cL G a1 24 (zrw b), cI G a2 37 W, cI G a3 5 S]) (wr := []) (fs := [.ref a1, .ref a2, .ref a3, .int (iI ((e : Int))), .int (iI ((k : Int)))]) (pc := 26) C dX2_addWord_26 (k_X2_bitsOf l G h a1 a2 a3 b W S e k hI w hw8) gX2_addWord_X2_bitsOf ⟨⟨_, rfl⟩, ⟨rfl, rfl⟩, nyX2_bitsOf, ⟨Nat.le_of_ble_eq_true rfl, Nat.le_of_ble_eq_true rfl⟩⟩ rfl zCl2 rfl (fun h => h) rfl (Nat.le_of_ble_eq_true rfl) [0, 1, 2, 3] [] rfl rfl (by decide) (by decide) (by decide) ⟨Nat.le_of_ble_eq_true rfl, Nat.le_of_ble_eq_true rfl⟩ (fun v w hk => ?_)
      obtain ⟨rfl, rfl⟩ := hk
      refine z_fix (pc2 := 29) (st2 := [.int (iI ((zbits S w)))]) (ws' := [(h, .inr (2, [.ref a1, .ref a2, .ref a3, .int (iI ((e : Int))), .int (iI ((k : Int)))])), cL G a1 24 (zrw b), cI G a2 37 W, cI G a3 5 S]) [0, 1, 2, 3] rfl rfl rfl (by decide) ?_
      refine z_istore_n (lv' := [(3, .int (iI ((zbits S w)))), (2, .int (iI ((ztk S)))), (0, .ref h), (1, .int (iI ((w : Int))))]) (pc := 29) C dX2_addWord_29 (by decide) rfl ?_
      refine z_aload_n (pc := 30) C dX2_addWord_30 2 rfl ?_
      refine z_get (pc := 31) C dX2_addWord_31 zCl2 ffX2_addWord_19 0 rfl rfl ?_
      refine z_iconst (pc := 34) C dX2_addWord_34 ?_
      refine z_iald (pc := 35) C dX2_addWord_35 3 rfl (0) (rfl) (by omega) (by decide) ?_
      refine z_istore (lv' := [(4, .int (iI ((S 0)))), (3, .int (iI ((zbits S w)))), (2, .int (iI ((ztk S)))), (0, .ref h), (1, .int (iI ((w : Int))))]) (pc := 36) C dX2_addWord_36 (by decide) rfl ?_
      refine z_aload_n (pc := 38) C dX2_addWord_38 3 rfl ?_
      refine z_callV (As := []) (rest := []) (wc := [(h, .inr (2, [.ref a1, .ref a2, .ref a3, .int (iI ((e : Int))), .int (iI ((k : Int)))])), cL G a1 24 (zrw b), cI G a2 37 W, cI G a3 5 S]) (wr := []) (fs := [.ref a1, .ref a2, .ref a3, .int (iI ((e : Int))), .int (iI ((k : Int)))]) (pc := 39) C dX2_addWord_39 (k_X2_bitsOfWord l G h a1 a2 a3 b W S e k hI ) gX2_addWord_X2_bitsOfWord ⟨⟨_, rfl⟩, ⟨rfl, rfl⟩, nyX2_bitsOfWord, ⟨Nat.le_of_ble_eq_true rfl, Nat.le_of_ble_eq_true rfl⟩⟩ rfl zCl2 rfl (fun h => h) rfl (Nat.le_of_ble_eq_true rfl) [0, 1, 2, 3] [] rfl rfl (by decide) (by decide) (by decide) ⟨Nat.le_of_ble_eq_true rfl, Nat.le_of_ble_eq_true rfl⟩ (fun v w hk => ?_)
      obtain ⟨rfl, rfl⟩ := hk
      refine z_fix (pc2 := 42) (st2 := [.int (iI ((zbn S)))]) (ws' := [(h, .inr (2, [.ref a1, .ref a2, .ref a3, .int (iI ((e : Int))), .int (iI ((k : Int)))])), cL G a1 24 (zrw b), cI G a2 37 W, cI G a3 5 S]) [0, 1, 2, 3] rfl rfl rfl (by decide) ?_
      refine z_topi (y := ((((zbn S).toNat) : Nat) : Int)) (by omega) ?_
      refine z_istore (lv' := [(5, .int (iI (((((zbn S).toNat) : Nat) : Int)))), (4, .int (iI ((S 0)))), (3, .int (iI ((zbits S w)))), (2, .int (iI ((ztk S)))), (0, .ref h), (1, .int (iI ((w : Int))))]) (pc := 42) C dX2_addWord_42 (by decide) rfl ?_
      refine z_iconst (pc := 44) C dX2_addWord_44 ?_
      refine z_istore (lv' := [(6, .int (iI 0)), (5, .int (iI (((((zbn S).toNat) : Nat) : Int)))), (4, .int (iI ((S 0)))), (3, .int (iI ((zbits S w)))), (2, .int (iI ((ztk S)))), (0, .ref h), (1, .int (iI ((w : Int))))]) (pc := 45) C dX2_addWord_45 (by decide) rfl ?_
      have L47 : ∀ (n : Nat) (i : Nat), (zbn S).toNat < i + n → i ≤ (zbn S).toNat → Z l X G Y 7 0 0 47 [(0, .ref h), (1, .int (iI ((w : Int)))), (2, .int (iI ((ztk S)))), (3, .int (iI ((zbits S w)))), (4, .int (iI ((S 0)))), (5, .int (iI (((((zbn S).toNat) : Nat) : Int)))), (6, .int (iI ((i : Int))))] [] [(h, .inr (2, [.ref a1, .ref a2, .ref a3, .int (iI ((e : Int))), .int (iI ((k : Int)))])), cL G a1 24 (zrw (zaw b S e w i)), cI G a2 37 W, cI G a3 5 S] := by
        intro n
        induction n with
        | zero => intro i hn hi; exact absurd hn (by omega)
        | succ n ih =>
          intro i hn hi
          refine z_iload (pc := 47) C dX2_addWord_47 6 rfl ?_
          refine z_iload (pc := 49) C dX2_addWord_49 5 rfl ?_
          refine z_icmp_ge (tgt := 101) (pc := 51) C dX2_addWord_51 (by decide) ⟨by omega, by omega⟩ ⟨by omega, by omega⟩ (fun c51 => ?_) (fun c51 => ?_)
          · obtain rfl : i = (zbn S).toNat := by omega
            refine z_aload_n (pc := 101) C dX2_addWord_101 0 rfl ?_
            refine z_get (pc := 102) C dX2_addWord_102 zCl2 ffX2_addWord_15 0 rfl rfl ?_
            refine z_aload_n (pc := 105) C dX2_addWord_105 0 rfl ?_
            refine z_get (pc := 106) C dX2_addWord_106 zCl2 ffX2_addWord_43 0 rfl rfl ?_
            refine z_iload_n (pc := 109) C dX2_addWord_109 1 rfl ?_
            refine z_iast (ws' := [(h, .inr (2, [.ref a1, .ref a2, .ref a3, .int (iI ((e : Int))), .int (iI ((k : Int)))])), cL G a1 24 (zrw (zaw b S e w (zbn S).toNat)), cI G a2 37 (zU W k (w : Int)), cI G a3 5 S]) (pc := 110) C dX2_addWord_110 2 rfl (k) (rfl) (by omega) (by decide) rfl ?_
            refine z_aload_n (pc := 111) C dX2_addWord_111 0 rfl ?_
            refine z_dup (pc := 112) C dX2_addWord_112 rfl ?_
            refine z_get (pc := 113) C dX2_addWord_113 zCl2 ffX2_addWord_43 0 rfl rfl ?_
            refine z_iconst (pc := 116) C dX2_addWord_116 ?_
            refine z_iadd (pc := 117) C dX2_addWord_117 ?_
            refine z_put (ty := .int) (ws' := [(h, .inr (2, [.ref a1, .ref a2, .ref a3, .int (iI ((e : Int))), .int (iI (((k : Int) + 1)))])), cL G a1 24 (zrw (zaw b S e w (zbn S).toNat)), cI G a2 37 (zU W k (w : Int)), cI G a3 5 S]) (pc := 118) C dX2_addWord_118 zCl2 ffX2_addWord_43 0 rfl rfl rfl rfl rfl (Nat.le_of_ble_eq_true rfl) rfl ?_
            refine z_aload_n (pc := 121) C dX2_addWord_121 0 rfl ?_
            refine z_dup (pc := 122) C dX2_addWord_122 rfl ?_
            refine z_get (pc := 123) C dX2_addWord_123 zCl2 ffX2_addWord_39 0 rfl rfl ?_
            refine z_iload_n (pc := 126) C dX2_addWord_126 2 rfl ?_
            refine z_iadd (pc := 127) C dX2_addWord_127 ?_
            refine z_put (ty := .int) (ws' := [(h, .inr (2, [.ref a1, .ref a2, .ref a3, .int (iI (((e : Int) + (ztk S)))), .int (iI (((k : Int) + 1)))])), cL G a1 24 (zrw (zaw b S e w (zbn S).toNat)), cI G a2 37 (zU W k (w : Int)), cI G a3 5 S]) (pc := 128) C dX2_addWord_128 zCl2 ffX2_addWord_39 0 rfl rfl rfl rfl rfl (Nat.le_of_ble_eq_true rfl) rfl ?_
            refine z_iconst (pc := 131) C dX2_addWord_131 ?_
            refine z_ws (ws' := [(h, .inr (2, [.ref a1, .ref a2, .ref a3, .int (iI ((e + (ztk S).toNat : Nat) : Int)), .int (iI ((k + 1 : Nat) : Int))])), cL G a1 24 (zrw (zaw b S e w (zbn S).toNat)), cI G a2 37 (zU W k (w : Int)), cI G a3 5 S]) [0, 1, 2, 3] (by rw [show ((e + (ztk S).toNat : Nat) : Int) = (e : Int) + ztk S by omega]; rfl) (by decide) ?_
            exact z_zret (pc := 132) C R0 (by decide) dX2_addWord_132 (⟨rfl, rfl⟩)
          · refine z_iload_n (pc := 54) C dX2_addWord_54 3 rfl ?_
            refine z_iload (pc := 55) C dX2_addWord_55 6 rfl ?_
            refine z_ishr (pc := 57) C dX2_addWord_57 ⟨by omega, by omega⟩ ⟨by omega, by omega⟩ ?_
            refine z_iconst (pc := 58) C dX2_addWord_58 ?_
            refine z_iand (pc := 59) C dX2_addWord_59 ⟨Int.ediv_nonneg (by omega) (Int.le_of_lt (Int.pow_pos (by decide))), Int.le_trans (Int.ediv_le_self _ (by omega)) (by omega)⟩ (by decide) ?_
            have hm2 := Int.emod_two_eq (zbits S w / 2 ^ i)
            refine z_topi (y := (zbits S w / 2 ^ i % 2)) (by rw [zand1 (Int.ediv_nonneg (by omega) (Int.le_of_lt (Int.pow_pos (by decide)))), Int.toNat_natCast]) ?_
            refine z_if_ne (tgt := 95) (pc := 60) C dX2_addWord_60 (by decide) ⟨by omega, by omega⟩ (fun c60 => ?_) (fun c60 => ?_)
            · refine z_iinc (lv' := [(6, .int (iI (((i : Int) + 1)))), (0, .ref h), (1, .int (iI ((w : Int)))), (2, .int (iI ((ztk S)))), (3, .int (iI ((zbits S w)))), (4, .int (iI ((S 0)))), (5, .int (iI (((((zbn S).toNat) : Nat) : Int))))]) (pc := 95) C dX2_addWord_95 6 rfl (by decide) rfl ?_
              refine z_goto (tgt := 47) (pc := 98) C dX2_addWord_98 (by decide) ?_
              refine z_lv (lv' := [(0, .ref h), (1, .int (iI ((w : Int)))), (2, .int (iI ((ztk S)))), (3, .int (iI ((zbits S w)))), (4, .int (iI ((S 0)))), (5, .int (iI (((((zbn S).toNat) : Nat) : Int)))), (6, .int (iI (((i : Int) + 1))))]) [1, 2, 3, 4, 5, 6, 0] rfl ?_
              refine z_rowL (F' := zrw (zaw b S e w (i + 1))) (ws' := [(h, .inr (2, [.ref a1, .ref a2, .ref a3, .int (iI (e : Int)), .int (iI (k : Int))])), cL G a1 24 (zrw (zaw b S e w (i + 1))), cI G a2 37 W, cI G a3 5 S]) 1 rfl (fun j _ => by rw [show zaw b S e w (i + 1) = zaw b S e w i from if_pos (by unfold zbt; exact decide_eq_true (by omega))]) rfl ?_
              exact ih (i + 1) (by omega) (by omega)
            · have hm1 := zmul_b (a := ((i : Nat) : Int)) (m := 12) (by omega) (by omega) s0
              have hm3 := zmul_b (a := ((i + 1 : Nat) : Int)) (m := 12) (by omega) (by omega) s0
              have hq1 := zps_int (S := S) e i (by omega)
              have hq2 := zps_int (S := S) e (i + 1) (by omega)
              have hq3 : zps S e i ≤ zps S e (i + 1) := zps_mono S e (Nat.le_succ i)
              have hq4 := zps_mono S e (show i + 1 ≤ (zbn S).toNat by omega)
              refine z_aload_n (pc := 63) C dX2_addWord_63 0 rfl ?_
              refine z_aload_n (pc := 64) C dX2_addWord_64 0 rfl ?_
              refine z_get (pc := 65) C dX2_addWord_65 zCl2 ffX2_addWord_39 0 rfl rfl ?_
              refine z_iload (pc := 68) C dX2_addWord_68 6 rfl ?_
              refine z_iload (pc := 70) C dX2_addWord_70 4 rfl ?_
              refine z_imul (pc := 72) C dX2_addWord_72 ?_
              refine z_bipush (pc := 73) C dX2_addWord_73 (by decide +kernel) ?_
              refine z_idiv (pc := 75) C dX2_addWord_75 ⟨by omega, by omega⟩ (by decide) ?_
              refine z_iadd (pc := 76) C dX2_addWord_76 ?_
              refine z_topi (y := (((zps S e i) : Nat) : Int)) (by omega) ?_
              refine z_aload_n (pc := 77) C dX2_addWord_77 0 rfl ?_
              refine z_get (pc := 78) C dX2_addWord_78 zCl2 ffX2_addWord_39 0 rfl rfl ?_
              refine z_iload (pc := 81) C dX2_addWord_81 6 rfl ?_
              refine z_iconst (pc := 83) C dX2_addWord_83 ?_
              refine z_iadd (pc := 84) C dX2_addWord_84 ?_
              refine z_iload (pc := 85) C dX2_addWord_85 4 rfl ?_
              refine z_imul (pc := 87) C dX2_addWord_87 ?_
              refine z_bipush (pc := 88) C dX2_addWord_88 (by decide +kernel) ?_
              refine z_idiv (pc := 90) C dX2_addWord_90 ⟨by push_cast at hm3; omega, by push_cast at hm3; omega⟩ (by decide) ?_
              refine z_iadd (pc := 91) C dX2_addWord_91 ?_
              refine z_topi (y := (((zps S e (i + 1)) : Nat) : Int)) (by push_cast at hq2; omega) ?_
              refine z_callV (As := [.int (iI ((((zps S e i) : Nat) : Int))), .int (iI ((((zps S e (i + 1)) : Nat) : Int)))]) (rest := []) (wc := [(h, .inr (2, [.ref a1, .ref a2, .ref a3, .int (iI ((e : Int))), .int (iI ((k : Int)))])), cL G a1 24 (zrw (zaw b S e w i)), cI G a2 37 W, cI G a3 5 S]) (wr := []) (fs := [.ref a1, .ref a2, .ref a3, .int (iI ((e : Int))), .int (iI ((k : Int)))]) (pc := 92) C dX2_addWord_92 (k_X2_putLow l G h a1 a2 a3 (zaw b S e w i) W S e k ((zps S e i : Nat) : Int) ((zps S e (i + 1) : Nat) : Int) (zps S e i) (zps S e (i + 1)) rfl rfl hq3 (by omega)) gX2_addWord_X2_putLow ⟨⟨_, rfl⟩, ⟨rfl, rfl⟩, nyX2_putLow, ⟨Nat.le_of_ble_eq_true rfl, Nat.le_of_ble_eq_true rfl⟩⟩ rfl zCl2 rfl (fun h => h) rfl (Nat.le_of_ble_eq_true rfl) [0, 1, 2, 3] [] rfl rfl (by decide) (by decide) (by decide) ⟨Nat.le_of_ble_eq_true rfl, Nat.le_of_ble_eq_true rfl⟩ (fun v w hk => ?_)
              obtain ⟨rfl, rfl⟩ := hk
              refine z_fix (pc2 := 95) (st2 := []) (ws' := [(h, .inr (2, [.ref a1, .ref a2, .ref a3, .int (iI ((e : Int))), .int (iI ((k : Int)))])), cL G a1 24 (zrw (zlow (zaw b S e w i) (zps S e i) (zps S e (i + 1)))), cI G a2 37 W, cI G a3 5 S]) [0, 1, 2, 3] rfl rfl rfl (by decide) ?_
              refine z_iinc (lv' := [(6, .int (iI (((i : Int) + 1)))), (0, .ref h), (1, .int (iI ((w : Int)))), (2, .int (iI ((ztk S)))), (3, .int (iI ((zbits S w)))), (4, .int (iI ((S 0)))), (5, .int (iI (((((zbn S).toNat) : Nat) : Int))))]) (pc := 95) C dX2_addWord_95 6 rfl (by decide) rfl ?_
              refine z_goto (tgt := 47) (pc := 98) C dX2_addWord_98 (by decide) ?_
              refine z_lv (lv' := [(0, .ref h), (1, .int (iI ((w : Int)))), (2, .int (iI ((ztk S)))), (3, .int (iI ((zbits S w)))), (4, .int (iI ((S 0)))), (5, .int (iI (((((zbn S).toNat) : Nat) : Int)))), (6, .int (iI (((i : Int) + 1))))]) [1, 2, 3, 4, 5, 6, 0] rfl ?_
              refine z_rowL (F' := zrw (zaw b S e w (i + 1))) (ws' := [(h, .inr (2, [.ref a1, .ref a2, .ref a3, .int (iI (e : Int)), .int (iI (k : Int))])), cL G a1 24 (zrw (zaw b S e w (i + 1))), cI G a2 37 W, cI G a3 5 S]) 1 rfl (fun j _ => by rw [show zaw b S e w (i + 1) = zlow (zaw b S e w i) (zps S e i) (zps S e (i + 1)) from if_neg (by unfold zbt; rw [decide_eq_false (by omega)]; exact Bool.false_ne_true)]) rfl ?_
              exact ih (i + 1) (by omega) (by omega)
      refine z_lv (lv' := [(0, .ref h), (1, .int (iI ((w : Int)))), (2, .int (iI ((ztk S)))), (3, .int (iI ((zbits S w)))), (4, .int (iI ((S 0)))), (5, .int (iI (((((zbn S).toNat) : Nat) : Int)))), (6, .int (iI 0))]) [5, 6, 4, 3, 2, 1, 0] rfl ?_
      exact L47 ((zbn S).toNat + 1) 0 (by omega) (by omega)
    · exfalso; omega

set_option maxHeartbeats 4000000 in
set_option maxRecDepth 100000 in
theorem k_X2_addStretch_f (l : Launch) (G : ZG) (h a1 a2 a3 : Nat) (b : Nat → Bool) (W S : Nat → Int) (e k : Nat) (hI : zI b W S e k) (v : Int) (m : Nat) (hm : m ≤ 100000) (hr : 1500 - (e : Int) < m) : Kt l G yX2_addStretch wsX2_addStretch { frames := 2, cells := 0, slots := 0, locals := 47 } 0 0 False [.ref h, .int (iI v), .int (iI ((m : Int)))] [(h, .inr (2, [.ref a1, .ref a2, .ref a3, .int (iI ((e : Int))), .int (iI ((k : Int)))])), cL G a1 24 (zrw b), cI G a2 37 W, cI G a3 5 S] (fun v9 w9 => v9 = some (.int (iI 0)) ∧ w9 = [(h, .inr (2, [.ref a1, .ref a2, .ref a3, .int (iI ((e : Int))), .int (iI ((k : Int)))])), cL G a1 24 (zrw b), cI G a2 37 W, cI G a3 5 S]) := by
  refine Kt.of (cc := cX2_addStretch) (nL := 3) (ret := (some .boolean)) (own := RX2) rfl (by decide +kernel) rfl (Nat.le_of_ble_eq_true rfl) ?_
  intro X Y C R0 hin
  show Z l X G Y 3 0 0 0 [(0, .ref h), (1, .int (iI v)), (2, .int (iI ((m : Int))))] [] [(h, .inr (2, [.ref a1, .ref a2, .ref a3, .int (iI ((e : Int))), .int (iI ((k : Int)))])), cL G a1 24 (zrw b), cI G a2 37 W, cI G a3 5 S]
  obtain ⟨he, hk, hb, s0, s1, s2, s3, s4, hw⟩ := id hI
  refine z_aload_n (pc := 0) C dX2_addStretch_0 0 rfl ?_
  refine z_iload_n (pc := 1) C dX2_addStretch_1 2 rfl ?_
  refine z_callV (As := [.int (iI ((m : Int)))]) (rest := []) (wc := [(h, .inr (2, [.ref a1, .ref a2, .ref a3, .int (iI ((e : Int))), .int (iI ((k : Int)))])), cL G a1 24 (zrw b), cI G a2 37 W, cI G a3 5 S]) (wr := []) (fs := [.ref a1, .ref a2, .ref a3, .int (iI ((e : Int))), .int (iI ((k : Int)))]) (pc := 2) C dX2_addStretch_2 (k_X2_hasRoom l G h a1 a2 a3 b W S e k hI (m : Int) ⟨by omega, by omega⟩) gX2_addStretch_X2_hasRoom ⟨⟨_, rfl⟩, ⟨rfl, rfl⟩, nyX2_hasRoom, ⟨Nat.le_of_ble_eq_true rfl, Nat.le_of_ble_eq_true rfl⟩⟩ rfl zCl2 rfl (fun h => h) rfl (Nat.le_of_ble_eq_true rfl) [0, 1, 2, 3] [] rfl rfl (by decide) (by decide) (by decide) ⟨Nat.le_of_ble_eq_true rfl, Nat.le_of_ble_eq_true rfl⟩ (fun v w hk => ?_)
  obtain ⟨r_2, h2_0, rfl, rfl⟩ := hk
  refine z_fix (pc2 := 5) (st2 := [.int (iI r_2)]) (ws' := [(h, .inr (2, [.ref a1, .ref a2, .ref a3, .int (iI ((e : Int))), .int (iI ((k : Int)))])), cL G a1 24 (zrw b), cI G a2 37 W, cI G a3 5 S]) [0, 1, 2, 3] rfl rfl rfl (by decide) ?_
  refine z_if_ne (tgt := 10) (pc := 5) C dX2_addStretch_5 (by decide) ⟨by omega, by omega⟩ (fun c5 => ?_) (fun c5 => ?_)
  · exfalso; omega
  · refine z_iconst (pc := 8) C dX2_addStretch_8 ?_
    exact z_zret (pc := 9) C R0 (by decide) dX2_addStretch_9 (⟨rfl, rfl⟩)

theorem ffX2_addStretch_39 : zFF wsX2_addStretch RX2 39 RX2 TX2 5 3 := ⟨by decide +kernel, by decide, by decide +kernel⟩
set_option maxHeartbeats 4000000 in
set_option maxRecDepth 100000 in
theorem k_X2_addStretch_t (l : Launch) (G : ZG) (h a1 a2 a3 : Nat) (b : Nat → Bool) (W S : Nat → Int) (e k : Nat) (hI : zI b W S e k) (v : Int) (m : Nat) (hv : 0 ≤ v ∧ v ≤ 1) (hr : (m : Int) ≤ 1500 - (e : Int)) : Kt l G yX2_addStretch wsX2_addStretch { frames := 2, cells := 0, slots := 0, locals := 47 } 0 0 False [.ref h, .int (iI v), .int (iI ((m : Int)))] [(h, .inr (2, [.ref a1, .ref a2, .ref a3, .int (iI ((e : Int))), .int (iI ((k : Int)))])), cL G a1 24 (zrw b), cI G a2 37 W, cI G a3 5 S] (fun v9 w9 => v9 = some (.int (iI 1)) ∧ w9 = [(h, .inr (2, [.ref a1, .ref a2, .ref a3, .int (iI ((((e + m) : Nat) : Int))), .int (iI ((k : Int)))])), cL G a1 24 (zrw (zsb b e v m)), cI G a2 37 W, cI G a3 5 S]) := by
  refine Kt.of (cc := cX2_addStretch) (nL := 3) (ret := (some .boolean)) (own := RX2) rfl (by decide +kernel) rfl (Nat.le_of_ble_eq_true rfl) ?_
  intro X Y C R0 hin
  show Z l X G Y 3 0 0 0 [(0, .ref h), (1, .int (iI v)), (2, .int (iI ((m : Int))))] [] [(h, .inr (2, [.ref a1, .ref a2, .ref a3, .int (iI ((e : Int))), .int (iI ((k : Int)))])), cL G a1 24 (zrw b), cI G a2 37 W, cI G a3 5 S]
  obtain ⟨he, hk, hb, s0, s1, s2, s3, s4, hw⟩ := id hI
  refine z_aload_n (pc := 0) C dX2_addStretch_0 0 rfl ?_
  refine z_iload_n (pc := 1) C dX2_addStretch_1 2 rfl ?_
  refine z_callV (As := [.int (iI ((m : Int)))]) (rest := []) (wc := [(h, .inr (2, [.ref a1, .ref a2, .ref a3, .int (iI ((e : Int))), .int (iI ((k : Int)))])), cL G a1 24 (zrw b), cI G a2 37 W, cI G a3 5 S]) (wr := []) (fs := [.ref a1, .ref a2, .ref a3, .int (iI ((e : Int))), .int (iI ((k : Int)))]) (pc := 2) C dX2_addStretch_2 (k_X2_hasRoom l G h a1 a2 a3 b W S e k hI (m : Int) ⟨by omega, by omega⟩) gX2_addStretch_X2_hasRoom ⟨⟨_, rfl⟩, ⟨rfl, rfl⟩, nyX2_hasRoom, ⟨Nat.le_of_ble_eq_true rfl, Nat.le_of_ble_eq_true rfl⟩⟩ rfl zCl2 rfl (fun h => h) rfl (Nat.le_of_ble_eq_true rfl) [0, 1, 2, 3] [] rfl rfl (by decide) (by decide) (by decide) ⟨Nat.le_of_ble_eq_true rfl, Nat.le_of_ble_eq_true rfl⟩ (fun v w hk => ?_)
  obtain ⟨r_2, h2_0, rfl, rfl⟩ := hk
  refine z_fix (pc2 := 5) (st2 := [.int (iI r_2)]) (ws' := [(h, .inr (2, [.ref a1, .ref a2, .ref a3, .int (iI ((e : Int))), .int (iI ((k : Int)))])), cL G a1 24 (zrw b), cI G a2 37 W, cI G a3 5 S]) [0, 1, 2, 3] rfl rfl rfl (by decide) ?_
  refine z_if_ne (tgt := 10) (pc := 5) C dX2_addStretch_5 (by decide) ⟨by omega, by omega⟩ (fun c5 => ?_) (fun c5 => ?_)
  · refine z_iload_n (pc := 10) C dX2_addStretch_10 1 rfl ?_
    refine z_if_ne (tgt := 28) (pc := 11) C dX2_addStretch_11 (by decide) ⟨by omega, by omega⟩ (fun c11 => ?_) (fun c11 => ?_)
    · refine z_aload_n (pc := 28) C dX2_addStretch_28 0 rfl ?_
      refine z_dup (pc := 29) C dX2_addStretch_29 rfl ?_
      refine z_get (pc := 30) C dX2_addStretch_30 zCl2 ffX2_addStretch_39 0 rfl rfl ?_
      refine z_iload_n (pc := 33) C dX2_addStretch_33 2 rfl ?_
      refine z_iadd (pc := 34) C dX2_addStretch_34 ?_
      refine z_put (ty := .int) (ws' := [(h, .inr (2, [.ref a1, .ref a2, .ref a3, .int (iI (((e : Int) + (m : Int)))), .int (iI ((k : Int)))])), cL G a1 24 (zrw b), cI G a2 37 W, cI G a3 5 S]) (pc := 35) C dX2_addStretch_35 zCl2 ffX2_addStretch_39 0 rfl rfl rfl rfl rfl (Nat.le_of_ble_eq_true rfl) rfl ?_
      refine z_iconst (pc := 38) C dX2_addStretch_38 ?_
      refine z_ws (ws' := [(h, .inr (2, [.ref a1, .ref a2, .ref a3, .int (iI ((e + m : Nat) : Int)), .int (iI (k : Int))])), cL G a1 24 (zrw (zsb b e v m)), cI G a2 37 W, cI G a3 5 S]) [0, 1, 2, 3] (by unfold zsb; rw [if_neg c11]; rfl) (by decide) ?_
      exact z_zret (pc := 39) C R0 (by decide) dX2_addStretch_39 (⟨rfl, rfl⟩)
    · refine z_aload_n (pc := 14) C dX2_addStretch_14 0 rfl ?_
      refine z_aload_n (pc := 15) C dX2_addStretch_15 0 rfl ?_
      refine z_get (pc := 16) C dX2_addStretch_16 zCl2 ffX2_addStretch_39 0 rfl rfl ?_
      refine z_aload_n (pc := 19) C dX2_addStretch_19 0 rfl ?_
      refine z_get (pc := 20) C dX2_addStretch_20 zCl2 ffX2_addStretch_39 0 rfl rfl ?_
      refine z_iload_n (pc := 23) C dX2_addStretch_23 2 rfl ?_
      refine z_iadd (pc := 24) C dX2_addStretch_24 ?_
      refine z_callV (As := [.int (iI ((e : Int))), .int (iI (((e : Int) + (m : Int))))]) (rest := []) (wc := [(h, .inr (2, [.ref a1, .ref a2, .ref a3, .int (iI ((e : Int))), .int (iI ((k : Int)))])), cL G a1 24 (zrw b), cI G a2 37 W, cI G a3 5 S]) (wr := []) (fs := [.ref a1, .ref a2, .ref a3, .int (iI ((e : Int))), .int (iI ((k : Int)))]) (pc := 25) C dX2_addStretch_25 (k_X2_putLow l G h a1 a2 a3 b W S e k (e : Int) ((e + m : Nat) : Int) e (e + m) rfl rfl (by omega) (by omega)) gX2_addStretch_X2_putLow ⟨⟨_, rfl⟩, ⟨rfl, rfl⟩, nyX2_putLow, ⟨Nat.le_of_ble_eq_true rfl, Nat.le_of_ble_eq_true rfl⟩⟩ rfl zCl2 rfl (fun h => h) rfl (Nat.le_of_ble_eq_true rfl) [0, 1, 2, 3] [] rfl rfl (by decide) (by decide) (by decide) ⟨Nat.le_of_ble_eq_true rfl, Nat.le_of_ble_eq_true rfl⟩ (fun v w hk => ?_)
      obtain ⟨rfl, rfl⟩ := hk
      refine z_fix (pc2 := 28) (st2 := []) (ws' := [(h, .inr (2, [.ref a1, .ref a2, .ref a3, .int (iI ((e : Int))), .int (iI ((k : Int)))])), cL G a1 24 (zrw (zlow b e (e + m))), cI G a2 37 W, cI G a3 5 S]) [0, 1, 2, 3] rfl rfl rfl (by decide) ?_
      refine z_aload_n (pc := 28) C dX2_addStretch_28 0 rfl ?_
      refine z_dup (pc := 29) C dX2_addStretch_29 rfl ?_
      refine z_get (pc := 30) C dX2_addStretch_30 zCl2 ffX2_addStretch_39 0 rfl rfl ?_
      refine z_iload_n (pc := 33) C dX2_addStretch_33 2 rfl ?_
      refine z_iadd (pc := 34) C dX2_addStretch_34 ?_
      refine z_put (ty := .int) (ws' := [(h, .inr (2, [.ref a1, .ref a2, .ref a3, .int (iI (((e : Int) + (m : Int)))), .int (iI ((k : Int)))])), cL G a1 24 (zrw (zlow b e (e + m))), cI G a2 37 W, cI G a3 5 S]) (pc := 35) C dX2_addStretch_35 zCl2 ffX2_addStretch_39 0 rfl rfl rfl rfl rfl (Nat.le_of_ble_eq_true rfl) rfl ?_
      refine z_iconst (pc := 38) C dX2_addStretch_38 ?_
      refine z_ws (ws' := [(h, .inr (2, [.ref a1, .ref a2, .ref a3, .int (iI ((e + m : Nat) : Int)), .int (iI (k : Int))])), cL G a1 24 (zrw (zsb b e v m)), cI G a2 37 W, cI G a3 5 S]) [0, 1, 2, 3] (by unfold zsb; rw [if_pos c11]; rfl) (by decide) ?_
      exact z_zret (pc := 39) C R0 (by decide) dX2_addStretch_39 (⟨rfl, rfl⟩)
  · exfalso; omega
