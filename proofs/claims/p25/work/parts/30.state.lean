/-! THE STATE, walked: its plain methods -/
theorem ffX2_end_39 : zFF wsX2_end RX2 39 RX2 TX2 5 3 := ⟨by decide +kernel, by decide, by decide +kernel⟩
set_option maxHeartbeats 4000000 in
set_option maxRecDepth 100000 in
theorem k_X2_end (l : Launch) (G : ZG) (h a1 a2 a3 : Nat) (b : Nat → Bool) (W S : Nat → Int) (e k : Nat) (hI : zI b W S e k) : Kt l G yX2_end wsX2_end { frames := 0, cells := 0, slots := 0, locals := 0 } 0 0 False [.ref h] [(h, .inr (2, [.ref a1, .ref a2, .ref a3, .int (iI ((e : Int))), .int (iI ((k : Int)))])), cL G a1 24 (zrw b), cI G a2 37 W, cI G a3 5 S] (fun v9 w9 => v9 = some (.int (iI ((e : Int)))) ∧ w9 = [(h, .inr (2, [.ref a1, .ref a2, .ref a3, .int (iI ((e : Int))), .int (iI ((k : Int)))])), cL G a1 24 (zrw b), cI G a2 37 W, cI G a3 5 S]) := by
  refine Kt.of (cc := cX2_end) (nL := 1) (ret := (some .int)) (own := RX2) rfl (by decide +kernel) rfl (Nat.le_of_ble_eq_true rfl) ?_
  intro X Y C R0 hin
  show Z l X G Y 1 0 0 0 [(0, .ref h)] [] [(h, .inr (2, [.ref a1, .ref a2, .ref a3, .int (iI ((e : Int))), .int (iI ((k : Int)))])), cL G a1 24 (zrw b), cI G a2 37 W, cI G a3 5 S]
  obtain ⟨he, hk, hb, s0, s1, s2, s3, s4, hw⟩ := id hI
  refine z_aload_n (pc := 0) C dX2_end_0 0 rfl ?_
  refine z_get (pc := 1) C dX2_end_1 zCl2 ffX2_end_39 0 rfl rfl ?_
  exact z_iret (pc := 4) C R0 dX2_end_4 (⟨rfl, rfl⟩)

theorem ffX2_wordCount_43 : zFF wsX2_wordCount RX2 43 RX2 TX2 5 4 := ⟨by decide +kernel, by decide, by decide +kernel⟩
set_option maxHeartbeats 4000000 in
set_option maxRecDepth 100000 in
theorem k_X2_wordCount (l : Launch) (G : ZG) (h a1 a2 a3 : Nat) (b : Nat → Bool) (W S : Nat → Int) (e k : Nat) (hI : zI b W S e k) : Kt l G yX2_wordCount wsX2_wordCount { frames := 0, cells := 0, slots := 0, locals := 0 } 0 0 False [.ref h] [(h, .inr (2, [.ref a1, .ref a2, .ref a3, .int (iI ((e : Int))), .int (iI ((k : Int)))])), cL G a1 24 (zrw b), cI G a2 37 W, cI G a3 5 S] (fun v9 w9 => v9 = some (.int (iI ((k : Int)))) ∧ w9 = [(h, .inr (2, [.ref a1, .ref a2, .ref a3, .int (iI ((e : Int))), .int (iI ((k : Int)))])), cL G a1 24 (zrw b), cI G a2 37 W, cI G a3 5 S]) := by
  refine Kt.of (cc := cX2_wordCount) (nL := 1) (ret := (some .int)) (own := RX2) rfl (by decide +kernel) rfl (Nat.le_of_ble_eq_true rfl) ?_
  intro X Y C R0 hin
  show Z l X G Y 1 0 0 0 [(0, .ref h)] [] [(h, .inr (2, [.ref a1, .ref a2, .ref a3, .int (iI ((e : Int))), .int (iI ((k : Int)))])), cL G a1 24 (zrw b), cI G a2 37 W, cI G a3 5 S]
  obtain ⟨he, hk, hb, s0, s1, s2, s3, s4, hw⟩ := id hI
  refine z_aload_n (pc := 0) C dX2_wordCount_0 0 rfl ?_
  refine z_get (pc := 1) C dX2_wordCount_1 zCl2 ffX2_wordCount_43 0 rfl rfl ?_
  exact z_iret (pc := 4) C R0 dX2_wordCount_4 (⟨rfl, rfl⟩)

theorem ffX2_setting_19 : zFF wsX2_setting RX2 19 RX2 TX2 5 2 := ⟨by decide +kernel, by decide, by decide +kernel⟩
set_option maxHeartbeats 4000000 in
set_option maxRecDepth 100000 in
theorem k_X2_setting (l : Launch) (G : ZG) (h a1 a2 a3 : Nat) (b : Nat → Bool) (W S : Nat → Int) (e k : Nat) (hI : zI b W S e k) (z : Int) (j : Nat) (hz : z = (j : Int)) (hj : j < 5) : Kt l G yX2_setting wsX2_setting { frames := 0, cells := 0, slots := 0, locals := 0 } 0 0 False [.ref h, .int (iI z)] [(h, .inr (2, [.ref a1, .ref a2, .ref a3, .int (iI ((e : Int))), .int (iI ((k : Int)))])), cL G a1 24 (zrw b), cI G a2 37 W, cI G a3 5 S] (fun v9 w9 => v9 = some (.int (iI ((S j)))) ∧ w9 = [(h, .inr (2, [.ref a1, .ref a2, .ref a3, .int (iI ((e : Int))), .int (iI ((k : Int)))])), cL G a1 24 (zrw b), cI G a2 37 W, cI G a3 5 S]) := by
  refine Kt.of (cc := cX2_setting) (nL := 2) (ret := (some .int)) (own := RX2) rfl (by decide +kernel) rfl (Nat.le_of_ble_eq_true rfl) ?_
  intro X Y C R0 hin
  show Z l X G Y 2 0 0 0 [(0, .ref h), (1, .int (iI z))] [] [(h, .inr (2, [.ref a1, .ref a2, .ref a3, .int (iI ((e : Int))), .int (iI ((k : Int)))])), cL G a1 24 (zrw b), cI G a2 37 W, cI G a3 5 S]
  obtain ⟨he, hk, hb, s0, s1, s2, s3, s4, hw⟩ := id hI
  refine z_iload_n (pc := 0) C dX2_setting_0 1 rfl ?_
  refine z_if_lt (tgt := 9) (pc := 1) C dX2_setting_1 (by decide) ⟨by omega, by omega⟩ (fun c1 => ?_) (fun c1 => ?_)
  · exfalso; omega
  · refine z_iload_n (pc := 4) C dX2_setting_4 1 rfl ?_
    refine z_iconst (pc := 5) C dX2_setting_5 ?_
    refine z_icmp_lt (tgt := 13) (pc := 6) C dX2_setting_6 (by decide) ⟨by omega, by omega⟩ (by decide) (fun c6 => ?_) (fun c6 => ?_)
    · refine z_aload_n (pc := 13) C dX2_setting_13 0 rfl ?_
      refine z_get (pc := 14) C dX2_setting_14 zCl2 ffX2_setting_19 0 rfl rfl ?_
      refine z_iload_n (pc := 17) C dX2_setting_17 1 rfl ?_
      refine z_iald (pc := 18) C dX2_setting_18 3 rfl (j) (hz) (hj) (by decide) ?_
      exact z_iret (pc := 19) C R0 dX2_setting_19 (⟨rfl, rfl⟩)
    · exfalso; omega

theorem ffX2_wordOfRank_43 : zFF wsX2_wordOfRank RX2 43 RX2 TX2 5 4 := ⟨by decide +kernel, by decide, by decide +kernel⟩
theorem ffX2_wordOfRank_15 : zFF wsX2_wordOfRank RX2 15 RX2 TX2 5 1 := ⟨by decide +kernel, by decide, by decide +kernel⟩
set_option maxHeartbeats 4000000 in
set_option maxRecDepth 100000 in
theorem k_X2_wordOfRank (l : Launch) (G : ZG) (h a1 a2 a3 : Nat) (b : Nat → Bool) (W S : Nat → Int) (e k : Nat) (hI : zI b W S e k) (z : Int) (hz : iR z) : Kt l G yX2_wordOfRank wsX2_wordOfRank { frames := 0, cells := 0, slots := 0, locals := 0 } 0 0 False [.ref h, .int (iI z)] [(h, .inr (2, [.ref a1, .ref a2, .ref a3, .int (iI ((e : Int))), .int (iI ((k : Int)))])), cL G a1 24 (zrw b), cI G a2 37 W, cI G a3 5 S] (fun v9 w9 => v9 = some (.int (iI ((zwr W k z)))) ∧ w9 = [(h, .inr (2, [.ref a1, .ref a2, .ref a3, .int (iI ((e : Int))), .int (iI ((k : Int)))])), cL G a1 24 (zrw b), cI G a2 37 W, cI G a3 5 S]) := by
  refine Kt.of (cc := cX2_wordOfRank) (nL := 2) (ret := (some .int)) (own := RX2) rfl (by decide +kernel) rfl (Nat.le_of_ble_eq_true rfl) ?_
  intro X Y C R0 hin
  show Z l X G Y 2 0 0 0 [(0, .ref h), (1, .int (iI z))] [] [(h, .inr (2, [.ref a1, .ref a2, .ref a3, .int (iI ((e : Int))), .int (iI ((k : Int)))])), cL G a1 24 (zrw b), cI G a2 37 W, cI G a3 5 S]
  obtain ⟨he, hk, hb, s0, s1, s2, s3, s4, hw⟩ := id hI
  refine z_iload_n (pc := 0) C dX2_wordOfRank_0 1 rfl ?_
  refine z_if_lt (tgt := 12) (pc := 1) C dX2_wordOfRank_1 (by decide) ⟨by omega, by omega⟩ (fun c1 => ?_) (fun c1 => ?_)
  · refine z_bipush (pc := 12) C dX2_wordOfRank_12 (by decide +kernel) ?_
    refine z_goto (tgt := 23) (pc := 14) C dX2_wordOfRank_14 (by decide) ?_
    refine z_topi (y := (zwr W k z)) (by unfold zwr; rw [if_neg (by omega)]) ?_
    exact z_iret (pc := 23) C R0 dX2_wordOfRank_23 (⟨rfl, rfl⟩)
  · refine z_iload_n (pc := 4) C dX2_wordOfRank_4 1 rfl ?_
    refine z_aload_n (pc := 5) C dX2_wordOfRank_5 0 rfl ?_
    refine z_get (pc := 6) C dX2_wordOfRank_6 zCl2 ffX2_wordOfRank_43 0 rfl rfl ?_
    refine z_icmp_lt (tgt := 17) (pc := 9) C dX2_wordOfRank_9 (by decide) ⟨by omega, by omega⟩ ⟨by omega, by omega⟩ (fun c9 => ?_) (fun c9 => ?_)
    · refine z_aload_n (pc := 17) C dX2_wordOfRank_17 0 rfl ?_
      refine z_get (pc := 18) C dX2_wordOfRank_18 zCl2 ffX2_wordOfRank_15 0 rfl rfl ?_
      refine z_iload_n (pc := 21) C dX2_wordOfRank_21 1 rfl ?_
      refine z_iald (pc := 22) C dX2_wordOfRank_22 2 rfl ((z).toNat) (by omega) (by omega) (by decide) ?_
      refine z_topi (y := (zwr W k z)) (by unfold zwr; rw [if_pos (by omega)]) ?_
      exact z_iret (pc := 23) C R0 dX2_wordOfRank_23 (⟨rfl, rfl⟩)
    · refine z_bipush (pc := 12) C dX2_wordOfRank_12 (by decide +kernel) ?_
      refine z_goto (tgt := 23) (pc := 14) C dX2_wordOfRank_14 (by decide) ?_
      refine z_topi (y := (zwr W k z)) (by unfold zwr; rw [if_neg (by omega)]) ?_
      exact z_iret (pc := 23) C R0 dX2_wordOfRank_23 (⟨rfl, rfl⟩)

theorem ffX2_change_19 : zFF wsX2_change RX2 19 RX2 TX2 5 2 := ⟨by decide +kernel, by decide, by decide +kernel⟩
set_option maxHeartbeats 4000000 in
set_option maxRecDepth 100000 in
theorem k_X2_change (l : Launch) (G : ZG) (h a1 a2 a3 : Nat) (b : Nat → Bool) (W S : Nat → Int) (e k : Nat) (hI : zI b W S e k) (z v : Int) (j : Nat) (hz : z = (j : Int)) (hj : j < 5) : Kt l G yX2_change wsX2_change { frames := 0, cells := 0, slots := 0, locals := 0 } 0 0 False [.ref h, .int (iI z), .int (iI v)] [(h, .inr (2, [.ref a1, .ref a2, .ref a3, .int (iI ((e : Int))), .int (iI ((k : Int)))])), cL G a1 24 (zrw b), cI G a2 37 W, cI G a3 5 S] (fun v9 w9 => v9 = none ∧ w9 = [(h, .inr (2, [.ref a1, .ref a2, .ref a3, .int (iI ((e : Int))), .int (iI ((k : Int)))])), cL G a1 24 (zrw b), cI G a2 37 W, cI G a3 5 (zU S j v)]) := by
  refine Kt.of (cc := cX2_change) (nL := 3) (ret := none) (own := RX2) rfl (by decide +kernel) rfl (Nat.le_of_ble_eq_true rfl) ?_
  intro X Y C R0 hin
  show Z l X G Y 3 0 0 0 [(0, .ref h), (1, .int (iI z)), (2, .int (iI v))] [] [(h, .inr (2, [.ref a1, .ref a2, .ref a3, .int (iI ((e : Int))), .int (iI ((k : Int)))])), cL G a1 24 (zrw b), cI G a2 37 W, cI G a3 5 S]
  obtain ⟨he, hk, hb, s0, s1, s2, s3, s4, hw⟩ := id hI
  refine z_iload_n (pc := 0) C dX2_change_0 1 rfl ?_
  refine z_if_lt (tgt := 16) (pc := 1) C dX2_change_1 (by decide) ⟨by omega, by omega⟩ (fun c1 => ?_) (fun c1 => ?_)
  · exfalso; omega
  · refine z_iload_n (pc := 4) C dX2_change_4 1 rfl ?_
    refine z_iconst (pc := 5) C dX2_change_5 ?_
    refine z_icmp_ge (tgt := 16) (pc := 6) C dX2_change_6 (by decide) ⟨by omega, by omega⟩ (by decide) (fun c6 => ?_) (fun c6 => ?_)
    · exfalso; omega
    · refine z_aload_n (pc := 9) C dX2_change_9 0 rfl ?_
      refine z_get (pc := 10) C dX2_change_10 zCl2 ffX2_change_19 0 rfl rfl ?_
      refine z_iload_n (pc := 13) C dX2_change_13 1 rfl ?_
      refine z_iload_n (pc := 14) C dX2_change_14 2 rfl ?_
      refine z_iast (ws' := [(h, .inr (2, [.ref a1, .ref a2, .ref a3, .int (iI ((e : Int))), .int (iI ((k : Int)))])), cL G a1 24 (zrw b), cI G a2 37 W, cI G a3 5 (zU S j v)]) (pc := 15) C dX2_change_15 3 rfl (j) (hz) (hj) (by decide) rfl ?_
      exact z_vret (pc := 16) C R0 dX2_change_16 (⟨rfl, rfl⟩)

theorem ffX2_hasRoom_39 : zFF wsX2_hasRoom RX2 39 RX2 TX2 5 3 := ⟨by decide +kernel, by decide, by decide +kernel⟩
set_option maxHeartbeats 4000000 in
set_option maxRecDepth 100000 in
theorem k_X2_hasRoom (l : Launch) (G : ZG) (h a1 a2 a3 : Nat) (b : Nat → Bool) (W S : Nat → Int) (e k : Nat) (hI : zI b W S e k) (z : Int) (hz : iR z) : Kt l G yX2_hasRoom wsX2_hasRoom { frames := 0, cells := 0, slots := 0, locals := 0 } 0 0 False [.ref h, .int (iI z)] [(h, .inr (2, [.ref a1, .ref a2, .ref a3, .int (iI ((e : Int))), .int (iI ((k : Int)))])), cL G a1 24 (zrw b), cI G a2 37 W, cI G a3 5 S] (fun v9 w9 => ∃ (r : Int), ((r = 1 ∧ z ≤ 1500 - (e : Int)) ∨ (r = 0 ∧ 1500 - (e : Int) < z)) ∧ v9 = some (.int (iI r)) ∧ w9 = [(h, .inr (2, [.ref a1, .ref a2, .ref a3, .int (iI ((e : Int))), .int (iI ((k : Int)))])), cL G a1 24 (zrw b), cI G a2 37 W, cI G a3 5 S]) := by
  refine Kt.of (cc := cX2_hasRoom) (nL := 2) (ret := (some .boolean)) (own := RX2) rfl (by decide +kernel) rfl (Nat.le_of_ble_eq_true rfl) ?_
  intro X Y C R0 hin
  show Z l X G Y 2 0 0 0 [(0, .ref h), (1, .int (iI z))] [] [(h, .inr (2, [.ref a1, .ref a2, .ref a3, .int (iI ((e : Int))), .int (iI ((k : Int)))])), cL G a1 24 (zrw b), cI G a2 37 W, cI G a3 5 S]
  obtain ⟨he, hk, hb, s0, s1, s2, s3, s4, hw⟩ := id hI
  refine z_iload_n (pc := 0) C dX2_hasRoom_0 1 rfl ?_
  refine z_sipush (pc := 1) C dX2_hasRoom_1 (by decide +kernel) ?_
  refine z_aload_n (pc := 4) C dX2_hasRoom_4 0 rfl ?_
  refine z_get (pc := 5) C dX2_hasRoom_5 zCl2 ffX2_hasRoom_39 0 rfl rfl ?_
  refine z_isub (pc := 8) C dX2_hasRoom_8 ?_
  refine z_icmp_gt (tgt := 16) (pc := 9) C dX2_hasRoom_9 (by decide) ⟨by omega, by omega⟩ ⟨by omega, by omega⟩ (fun c9 => ?_) (fun c9 => ?_)
  · refine z_iconst (pc := 16) C dX2_hasRoom_16 ?_
    exact z_zret (pc := 17) C R0 (by decide) dX2_hasRoom_17 (⟨0, Or.inr ⟨rfl, by omega⟩, rfl, rfl⟩)
  · refine z_iconst (pc := 12) C dX2_hasRoom_12 ?_
    refine z_goto (tgt := 17) (pc := 13) C dX2_hasRoom_13 (by decide) ?_
    exact z_zret (pc := 17) C R0 (by decide) dX2_hasRoom_17 (⟨1, Or.inl ⟨rfl, by omega⟩, rfl, rfl⟩)

theorem ffX2_bitsOfWord_19 : zFF wsX2_bitsOfWord RX2 19 RX2 TX2 5 2 := ⟨by decide +kernel, by decide, by decide +kernel⟩
set_option maxHeartbeats 4000000 in
set_option maxRecDepth 100000 in
theorem k_X2_bitsOfWord (l : Launch) (G : ZG) (h a1 a2 a3 : Nat) (b : Nat → Bool) (W S : Nat → Int) (e k : Nat) (hI : zI b W S e k) : Kt l G yX2_bitsOfWord wsX2_bitsOfWord { frames := 0, cells := 0, slots := 0, locals := 0 } 0 0 False [.ref h] [(h, .inr (2, [.ref a1, .ref a2, .ref a3, .int (iI ((e : Int))), .int (iI ((k : Int)))])), cL G a1 24 (zrw b), cI G a2 37 W, cI G a3 5 S] (fun v9 w9 => v9 = some (.int (iI ((zbn S)))) ∧ w9 = [(h, .inr (2, [.ref a1, .ref a2, .ref a3, .int (iI ((e : Int))), .int (iI ((k : Int)))])), cL G a1 24 (zrw b), cI G a2 37 W, cI G a3 5 S]) := by
  refine Kt.of (cc := cX2_bitsOfWord) (nL := 2) (ret := (some .int)) (own := RX2) rfl (by decide +kernel) rfl (Nat.le_of_ble_eq_true rfl) ?_
  intro X Y C R0 hin
  show Z l X G Y 2 0 0 0 [(0, .ref h)] [] [(h, .inr (2, [.ref a1, .ref a2, .ref a3, .int (iI ((e : Int))), .int (iI ((k : Int)))])), cL G a1 24 (zrw b), cI G a2 37 W, cI G a3 5 S]
  obtain ⟨he, hk, hb, s0, s1, s2, s3, s4, hw⟩ := id hI
  refine z_aload_n (pc := 0) C dX2_bitsOfWord_0 0 rfl ?_
  refine z_get (pc := 1) C dX2_bitsOfWord_1 zCl2 ffX2_bitsOfWord_19 0 rfl rfl ?_
  refine z_iconst (pc := 4) C dX2_bitsOfWord_4 ?_
  refine z_iald (pc := 5) C dX2_bitsOfWord_5 3 rfl (2) (rfl) (by omega) (by decide) ?_
  refine z_if_ne (tgt := 13) (pc := 6) C dX2_bitsOfWord_6 (by decide) ⟨by omega, by omega⟩ (fun c6 => ?_) (fun c6 => ?_)
  · refine z_iconst (pc := 13) C dX2_bitsOfWord_13 ?_
    refine z_istore_n (lv' := [(1, .int (iI 1)), (0, .ref h)]) (pc := 14) C dX2_bitsOfWord_14 (by decide) rfl ?_
    refine z_bipush (pc := 15) C dX2_bitsOfWord_15 (by decide +kernel) ?_
    refine z_iload_n (pc := 17) C dX2_bitsOfWord_17 0 rfl ?_
    refine z_iadd (pc := 18) C dX2_bitsOfWord_18 ?_
    refine z_aload_n (pc := 19) C dX2_bitsOfWord_19 1 rfl ?_
    refine z_get (pc := 20) C dX2_bitsOfWord_20 zCl2 ffX2_bitsOfWord_19 0 rfl rfl ?_
    refine z_iconst (pc := 23) C dX2_bitsOfWord_23 ?_
    refine z_iald (pc := 24) C dX2_bitsOfWord_24 3 rfl (3) (rfl) (by omega) (by decide) ?_
    refine z_iadd (pc := 25) C dX2_bitsOfWord_25 ?_
    refine z_topi (y := (zbn S)) (by unfold zbn; rw [if_neg c6]) ?_
    exact z_iret (pc := 26) C R0 dX2_bitsOfWord_26 (⟨rfl, rfl⟩)
  · refine z_iconst (pc := 9) C dX2_bitsOfWord_9 ?_
    refine z_goto (tgt := 14) (pc := 10) C dX2_bitsOfWord_10 (by decide) ?_
    refine z_istore_n (lv' := [(1, .int (iI 0)), (0, .ref h)]) (pc := 14) C dX2_bitsOfWord_14 (by decide) rfl ?_
    refine z_bipush (pc := 15) C dX2_bitsOfWord_15 (by decide +kernel) ?_
    refine z_iload_n (pc := 17) C dX2_bitsOfWord_17 0 rfl ?_
    refine z_iadd (pc := 18) C dX2_bitsOfWord_18 ?_
    refine z_aload_n (pc := 19) C dX2_bitsOfWord_19 1 rfl ?_
    refine z_get (pc := 20) C dX2_bitsOfWord_20 zCl2 ffX2_bitsOfWord_19 0 rfl rfl ?_
    refine z_iconst (pc := 23) C dX2_bitsOfWord_23 ?_
    refine z_iald (pc := 24) C dX2_bitsOfWord_24 3 rfl (3) (rfl) (by omega) (by decide) ?_
    refine z_iadd (pc := 25) C dX2_bitsOfWord_25 ?_
    refine z_topi (y := (zbn S)) (by unfold zbn; rw [if_pos c6]) ?_
    exact z_iret (pc := 26) C R0 dX2_bitsOfWord_26 (⟨rfl, rfl⟩)

theorem nyX2_bitsOfWord : yX2_bitsOfWord.cls ≠ "java/lang/invoke/MethodHandle" ∧ yX2_bitsOfWord.cls ≠ "java/lang/invoke/VarHandle" ∧ (parseMethodDescriptor yX2_bitsOfWord.desc).map (fun d => d.parameters.length) = some 0 := by decide +kernel
theorem ffX2_ticksOfWord_19 : zFF wsX2_ticksOfWord RX2 19 RX2 TX2 5 2 := ⟨by decide +kernel, by decide, by decide +kernel⟩
set_option maxHeartbeats 4000000 in
set_option maxRecDepth 100000 in
theorem k_X2_ticksOfWord (l : Launch) (G : ZG) (h a1 a2 a3 : Nat) (b : Nat → Bool) (W S : Nat → Int) (e k : Nat) (hI : zI b W S e k) : Kt l G yX2_ticksOfWord wsX2_ticksOfWord { frames := 1, cells := 0, slots := 0, locals := 21 } 0 0 False [.ref h] [(h, .inr (2, [.ref a1, .ref a2, .ref a3, .int (iI ((e : Int))), .int (iI ((k : Int)))])), cL G a1 24 (zrw b), cI G a2 37 W, cI G a3 5 S] (fun v9 w9 => v9 = some (.int (iI ((ztk S)))) ∧ w9 = [(h, .inr (2, [.ref a1, .ref a2, .ref a3, .int (iI ((e : Int))), .int (iI ((k : Int)))])), cL G a1 24 (zrw b), cI G a2 37 W, cI G a3 5 S]) := by
  refine Kt.of (cc := cX2_ticksOfWord) (nL := 1) (ret := (some .int)) (own := RX2) rfl (by decide +kernel) rfl (Nat.le_of_ble_eq_true rfl) ?_
  intro X Y C R0 hin
  show Z l X G Y 1 0 0 0 [(0, .ref h)] [] [(h, .inr (2, [.ref a1, .ref a2, .ref a3, .int (iI ((e : Int))), .int (iI ((k : Int)))])), cL G a1 24 (zrw b), cI G a2 37 W, cI G a3 5 S]
  obtain ⟨he, hk, hb, s0, s1, s2, s3, s4, hw⟩ := id hI
  have hm := zmul_b (a := zbn S) (m := 12) (by have := zbn_b s3; omega) (zbn_b s3).2 s0
  refine z_aload_n (pc := 0) C dX2_ticksOfWord_0 0 rfl ?_
  refine z_callV (As := []) (rest := []) (wc := [(h, .inr (2, [.ref a1, .ref a2, .ref a3, .int (iI ((e : Int))), .int (iI ((k : Int)))])), cL G a1 24 (zrw b), cI G a2 37 W, cI G a3 5 S]) (wr := []) (fs := [.ref a1, .ref a2, .ref a3, .int (iI ((e : Int))), .int (iI ((k : Int)))]) (pc := 1) C dX2_ticksOfWord_1 (k_X2_bitsOfWord l G h a1 a2 a3 b W S e k hI ) gX2_ticksOfWord_X2_bitsOfWord ⟨⟨_, rfl⟩, ⟨rfl, rfl⟩, nyX2_bitsOfWord, ⟨Nat.le_of_ble_eq_true rfl, Nat.le_of_ble_eq_true rfl⟩⟩ rfl zCl2 rfl (fun h => h) rfl (Nat.le_of_ble_eq_true rfl) [0, 1, 2, 3] [] rfl rfl (by decide) (by decide) (by decide) ⟨Nat.le_of_ble_eq_true rfl, Nat.le_of_ble_eq_true rfl⟩ (fun v w hk => ?_)
  obtain ⟨rfl, rfl⟩ := hk
  refine z_fix (pc2 := 4) (st2 := [.int (iI ((zbn S)))]) (ws' := [(h, .inr (2, [.ref a1, .ref a2, .ref a3, .int (iI ((e : Int))), .int (iI ((k : Int)))])), cL G a1 24 (zrw b), cI G a2 37 W, cI G a3 5 S]) [0, 1, 2, 3] rfl rfl rfl (by decide) ?_
  refine z_aload_n (pc := 4) C dX2_ticksOfWord_4 0 rfl ?_
  refine z_get (pc := 5) C dX2_ticksOfWord_5 zCl2 ffX2_ticksOfWord_19 0 rfl rfl ?_
  refine z_iconst (pc := 8) C dX2_ticksOfWord_8 ?_
  refine z_iald (pc := 9) C dX2_ticksOfWord_9 3 rfl (0) (rfl) (by omega) (by decide) ?_
  refine z_imul (pc := 10) C dX2_ticksOfWord_10 ?_
  refine z_bipush (pc := 11) C dX2_ticksOfWord_11 (by decide +kernel) ?_
  refine z_idiv (pc := 13) C dX2_ticksOfWord_13 ⟨by omega, by omega⟩ (by decide) ?_
  refine z_topi (y := (ztk S)) (rfl) ?_
  exact z_iret (pc := 14) C R0 dX2_ticksOfWord_14 (⟨rfl, rfl⟩)

set_option maxHeartbeats 4000000 in
set_option maxRecDepth 100000 in
theorem k_J6_bitCount_0f7a4 (l : Launch) (G : ZG) (x : Int32) : Kt l G yJ6_bitCount_0f7a4 wsJ6_bitCount_0f7a4 { frames := 0, cells := 0, slots := 0, locals := 0 } 0 0 False [.int (x)] [] (fun v9 w9 => v9 = some (.int ((jpi x))) ∧ w9 = []) := by
  refine Kt.of (cc := cJ6_bitCount_0f7a4) (nL := 1) (ret := (some .int)) (own := RJ6) rfl (by decide +kernel) rfl (Nat.le_of_ble_eq_true rfl) ?_
  intro X Y C R0 hin
  show Z l X G Y 1 0 0 0 [(0, .int (x))] [] []
  refine z_iload_n (pc := 0) C dJ6_bitCount_0f7a4_0 0 rfl ?_
  refine z_iload_n (pc := 1) C dJ6_bitCount_0f7a4_1 0 rfl ?_
  refine z_iconst (pc := 2) C dJ6_bitCount_0f7a4_2 ?_
  refine z_iushr (pc := 3) C dJ6_bitCount_0f7a4_3 ?_
  refine z_ldcw (v := 1431655765) (pc := 4) C dJ6_bitCount_0f7a4_4 (by decide +kernel) ?_
  refine z_iand32 (pc := 7) C dJ6_bitCount_0f7a4_7 ?_
  refine z_isub32 (pc := 8) C dJ6_bitCount_0f7a4_8 ?_
  obtain ⟨x1, ex1⟩ : ∃ y : Int32, (x - (((x).toUInt32 >>> ((iI 1).toUInt32 &&& Int32.toUInt32 31)).toInt32 &&& 1431655765)) = y := ⟨_, rfl⟩
  refine z_top ex1 ?_
  refine z_istore_n (lv' := [(0, .int (x1))]) (pc := 9) C dJ6_bitCount_0f7a4_9 (by decide) rfl ?_
  refine z_iload_n (pc := 10) C dJ6_bitCount_0f7a4_10 0 rfl ?_
  refine z_ldcw (v := 858993459) (pc := 11) C dJ6_bitCount_0f7a4_11 (by decide +kernel) ?_
  refine z_iand32 (pc := 14) C dJ6_bitCount_0f7a4_14 ?_
  refine z_iload_n (pc := 15) C dJ6_bitCount_0f7a4_15 0 rfl ?_
  refine z_iconst (pc := 16) C dJ6_bitCount_0f7a4_16 ?_
  refine z_iushr (pc := 17) C dJ6_bitCount_0f7a4_17 ?_
  refine z_ldcw (v := 858993459) (pc := 18) C dJ6_bitCount_0f7a4_18 (by decide +kernel) ?_
  refine z_iand32 (pc := 21) C dJ6_bitCount_0f7a4_21 ?_
  refine z_iadd32 (pc := 22) C dJ6_bitCount_0f7a4_22 ?_
  obtain ⟨x2, ex2⟩ : ∃ y : Int32, ((x1 &&& 858993459) + (((x1).toUInt32 >>> ((iI 2).toUInt32 &&& Int32.toUInt32 31)).toInt32 &&& 858993459)) = y := ⟨_, rfl⟩
  refine z_top ex2 ?_
  refine z_istore_n (lv' := [(0, .int (x2))]) (pc := 23) C dJ6_bitCount_0f7a4_23 (by decide) rfl ?_
  refine z_iload_n (pc := 24) C dJ6_bitCount_0f7a4_24 0 rfl ?_
  refine z_iload_n (pc := 25) C dJ6_bitCount_0f7a4_25 0 rfl ?_
  refine z_iconst (pc := 26) C dJ6_bitCount_0f7a4_26 ?_
  refine z_iushr (pc := 27) C dJ6_bitCount_0f7a4_27 ?_
  refine z_iadd32 (pc := 28) C dJ6_bitCount_0f7a4_28 ?_
  refine z_ldcw (v := 252645135) (pc := 29) C dJ6_bitCount_0f7a4_29 (by decide +kernel) ?_
  refine z_iand32 (pc := 32) C dJ6_bitCount_0f7a4_32 ?_
  obtain ⟨x3, ex3⟩ : ∃ y : Int32, ((x2 + ((x2).toUInt32 >>> ((iI 4).toUInt32 &&& Int32.toUInt32 31)).toInt32) &&& 252645135) = y := ⟨_, rfl⟩
  refine z_top ex3 ?_
  refine z_istore_n (lv' := [(0, .int (x3))]) (pc := 33) C dJ6_bitCount_0f7a4_33 (by decide) rfl ?_
  refine z_iload_n (pc := 34) C dJ6_bitCount_0f7a4_34 0 rfl ?_
  refine z_iload_n (pc := 35) C dJ6_bitCount_0f7a4_35 0 rfl ?_
  refine z_bipush (pc := 36) C dJ6_bitCount_0f7a4_36 (by decide +kernel) ?_
  refine z_iushr (pc := 38) C dJ6_bitCount_0f7a4_38 ?_
  refine z_iadd32 (pc := 39) C dJ6_bitCount_0f7a4_39 ?_
  obtain ⟨x4, ex4⟩ : ∃ y : Int32, (x3 + ((x3).toUInt32 >>> ((iI 8).toUInt32 &&& Int32.toUInt32 31)).toInt32) = y := ⟨_, rfl⟩
  refine z_top ex4 ?_
  refine z_istore_n (lv' := [(0, .int (x4))]) (pc := 40) C dJ6_bitCount_0f7a4_40 (by decide) rfl ?_
  refine z_iload_n (pc := 41) C dJ6_bitCount_0f7a4_41 0 rfl ?_
  refine z_iload_n (pc := 42) C dJ6_bitCount_0f7a4_42 0 rfl ?_
  refine z_bipush (pc := 43) C dJ6_bitCount_0f7a4_43 (by decide +kernel) ?_
  refine z_iushr (pc := 45) C dJ6_bitCount_0f7a4_45 ?_
  refine z_iadd32 (pc := 46) C dJ6_bitCount_0f7a4_46 ?_
  obtain ⟨x5, ex5⟩ : ∃ y : Int32, (x4 + ((x4).toUInt32 >>> ((iI 16).toUInt32 &&& Int32.toUInt32 31)).toInt32) = y := ⟨_, rfl⟩
  refine z_top ex5 ?_
  refine z_istore_n (lv' := [(0, .int (x5))]) (pc := 47) C dJ6_bitCount_0f7a4_47 (by decide) rfl ?_
  refine z_iload_n (pc := 48) C dJ6_bitCount_0f7a4_48 0 rfl ?_
  refine z_bipush (pc := 49) C dJ6_bitCount_0f7a4_49 (by decide +kernel) ?_
  refine z_iand32 (pc := 51) C dJ6_bitCount_0f7a4_51 ?_
  exact z_iret (pc := 52) C R0 dJ6_bitCount_0f7a4_52 (by subst ex1 ex2 ex3 ex4 ex5; exact ⟨rfl, rfl⟩)

set_option maxHeartbeats 4000000 in
set_option maxRecDepth 100000 in
theorem k_J13_bitCount_95d88 (l : Launch) (G : ZG) (x : Int64) : Kt l G yJ13_bitCount_95d88 wsJ13_bitCount_95d88 { frames := 0, cells := 0, slots := 0, locals := 0 } 0 0 False [.long (x)] [] (fun v9 w9 => v9 = some (.int ((jpl x))) ∧ w9 = []) := by
  refine Kt.of (cc := cJ13_bitCount_95d88) (nL := 2) (ret := (some .int)) (own := RJ13) rfl (by decide +kernel) rfl (Nat.le_of_ble_eq_true rfl) ?_
  intro X Y C R0 hin
  show Z l X G Y 2 0 0 0 [(0, .long (x))] [] []
  refine z_lload_n (pc := 0) C dJ13_bitCount_95d88_0 0 rfl ?_
  refine z_lload_n (pc := 1) C dJ13_bitCount_95d88_1 0 rfl ?_
  refine z_iconst (pc := 2) C dJ13_bitCount_95d88_2 ?_
  refine z_lushr (pc := 3) C (1) (by omega) ⟨by omega, by omega⟩ dJ13_bitCount_95d88_3 ?_
  refine z_ldc2 (v := 6148914691236517205) (pc := 4) C dJ13_bitCount_95d88_4 (by decide +kernel) ?_
  refine z_land (pc := 7) C dJ13_bitCount_95d88_7 ?_
  refine z_lsub (pc := 8) C dJ13_bitCount_95d88_8 ?_
  obtain ⟨x1, ex1⟩ : ∃ y : Int64, (x - ((zsr x (1)) &&& 6148914691236517205)) = y := ⟨_, rfl⟩
  refine z_topl ex1 ?_
  refine z_lstore_n (lv' := [(0, .long (x1))]) (pc := 9) C dJ13_bitCount_95d88_9 (by decide) rfl ?_
  refine z_lload_n (pc := 10) C dJ13_bitCount_95d88_10 0 rfl ?_
  refine z_ldc2 (v := 3689348814741910323) (pc := 11) C dJ13_bitCount_95d88_11 (by decide +kernel) ?_
  refine z_land (pc := 14) C dJ13_bitCount_95d88_14 ?_
  refine z_lload_n (pc := 15) C dJ13_bitCount_95d88_15 0 rfl ?_
  refine z_iconst (pc := 16) C dJ13_bitCount_95d88_16 ?_
  refine z_lushr (pc := 17) C (2) (by omega) ⟨by omega, by omega⟩ dJ13_bitCount_95d88_17 ?_
  refine z_ldc2 (v := 3689348814741910323) (pc := 18) C dJ13_bitCount_95d88_18 (by decide +kernel) ?_
  refine z_land (pc := 21) C dJ13_bitCount_95d88_21 ?_
  refine z_ladd (pc := 22) C dJ13_bitCount_95d88_22 ?_
  obtain ⟨x2, ex2⟩ : ∃ y : Int64, ((x1 &&& 3689348814741910323) + ((zsr x1 (2)) &&& 3689348814741910323)) = y := ⟨_, rfl⟩
  refine z_topl ex2 ?_
  refine z_lstore_n (lv' := [(0, .long (x2))]) (pc := 23) C dJ13_bitCount_95d88_23 (by decide) rfl ?_
  refine z_lload_n (pc := 24) C dJ13_bitCount_95d88_24 0 rfl ?_
  refine z_lload_n (pc := 25) C dJ13_bitCount_95d88_25 0 rfl ?_
  refine z_iconst (pc := 26) C dJ13_bitCount_95d88_26 ?_
  refine z_lushr (pc := 27) C (4) (by omega) ⟨by omega, by omega⟩ dJ13_bitCount_95d88_27 ?_
  refine z_ladd (pc := 28) C dJ13_bitCount_95d88_28 ?_
  refine z_ldc2 (v := 1085102592571150095) (pc := 29) C dJ13_bitCount_95d88_29 (by decide +kernel) ?_
  refine z_land (pc := 32) C dJ13_bitCount_95d88_32 ?_
  obtain ⟨x3, ex3⟩ : ∃ y : Int64, ((x2 + (zsr x2 (4))) &&& 1085102592571150095) = y := ⟨_, rfl⟩
  refine z_topl ex3 ?_
  refine z_lstore_n (lv' := [(0, .long (x3))]) (pc := 33) C dJ13_bitCount_95d88_33 (by decide) rfl ?_
  refine z_lload_n (pc := 34) C dJ13_bitCount_95d88_34 0 rfl ?_
  refine z_lload_n (pc := 35) C dJ13_bitCount_95d88_35 0 rfl ?_
  refine z_bipush (pc := 36) C dJ13_bitCount_95d88_36 (by decide +kernel) ?_
  refine z_lushr (pc := 38) C (8) (by omega) ⟨by omega, by omega⟩ dJ13_bitCount_95d88_38 ?_
  refine z_ladd (pc := 39) C dJ13_bitCount_95d88_39 ?_
  obtain ⟨x4, ex4⟩ : ∃ y : Int64, (x3 + (zsr x3 (8))) = y := ⟨_, rfl⟩
  refine z_topl ex4 ?_
  refine z_lstore_n (lv' := [(0, .long (x4))]) (pc := 40) C dJ13_bitCount_95d88_40 (by decide) rfl ?_
  refine z_lload_n (pc := 41) C dJ13_bitCount_95d88_41 0 rfl ?_
  refine z_lload_n (pc := 42) C dJ13_bitCount_95d88_42 0 rfl ?_
  refine z_bipush (pc := 43) C dJ13_bitCount_95d88_43 (by decide +kernel) ?_
  refine z_lushr (pc := 45) C (16) (by omega) ⟨by omega, by omega⟩ dJ13_bitCount_95d88_45 ?_
  refine z_ladd (pc := 46) C dJ13_bitCount_95d88_46 ?_
  obtain ⟨x5, ex5⟩ : ∃ y : Int64, (x4 + (zsr x4 (16))) = y := ⟨_, rfl⟩
  refine z_topl ex5 ?_
  refine z_lstore_n (lv' := [(0, .long (x5))]) (pc := 47) C dJ13_bitCount_95d88_47 (by decide) rfl ?_
  refine z_lload_n (pc := 48) C dJ13_bitCount_95d88_48 0 rfl ?_
  refine z_lload_n (pc := 49) C dJ13_bitCount_95d88_49 0 rfl ?_
  refine z_bipush (pc := 50) C dJ13_bitCount_95d88_50 (by decide +kernel) ?_
  refine z_lushr (pc := 52) C (32) (by omega) ⟨by omega, by omega⟩ dJ13_bitCount_95d88_52 ?_
  refine z_ladd (pc := 53) C dJ13_bitCount_95d88_53 ?_
  obtain ⟨x6, ex6⟩ : ∃ y : Int64, (x5 + (zsr x5 (32))) = y := ⟨_, rfl⟩
  refine z_topl ex6 ?_
  refine z_lstore_n (lv' := [(0, .long (x6))]) (pc := 54) C dJ13_bitCount_95d88_54 (by decide) rfl ?_
  refine z_lload_n (pc := 55) C dJ13_bitCount_95d88_55 0 rfl ?_
  refine z_l2i (z := x6.toInt32.toInt) (pc := 56) C ((iI_of _).symm) dJ13_bitCount_95d88_56 ?_
  refine z_top (y := (x6.toInt32)) (iI_of _) ?_
  refine z_bipush (pc := 57) C dJ13_bitCount_95d88_57 (by decide +kernel) ?_
  refine z_iand32 (pc := 59) C dJ13_bitCount_95d88_59 ?_
  exact z_iret (pc := 60) C R0 dJ13_bitCount_95d88_60 (by subst ex1 ex2 ex3 ex4 ex5 ex6; exact ⟨rfl, rfl⟩)

theorem nyJ6_bitCount_0f7a4 : yJ6_bitCount_0f7a4.cls ≠ "java/lang/invoke/MethodHandle" ∧ yJ6_bitCount_0f7a4.cls ≠ "java/lang/invoke/VarHandle" ∧ (parseMethodDescriptor yJ6_bitCount_0f7a4.desc).map (fun d => d.parameters.length) = some 1 := by decide +kernel
set_option maxHeartbeats 4000000 in
set_option maxRecDepth 100000 in
theorem k_X4_parityOf (l : Launch) (G : ZG) (w : Nat) (q : Int) (hw : w ≤ 255) (hq : iR q) : Kt l G yX4_parityOf wsX4_parityOf { frames := 1, cells := 0, slots := 0, locals := 20 } 0 0 False [.int (iI ((w : Int))), .int (iI q)] [] (fun v9 w9 => v9 = some (.int (iI ((zpar q w)))) ∧ w9 = []) := by
  refine Kt.of (cc := cX4_parityOf) (nL := 3) (ret := (some .int)) (own := RX4) rfl (by decide +kernel) rfl (Nat.le_of_ble_eq_true rfl) ?_
  intro X Y C R0 hin
  show Z l X G Y 3 0 0 0 [(0, .int (iI ((w : Int)))), (1, .int (iI q))] [] []
  refine z_iload_n (pc := 0) C dX4_parityOf_0 0 rfl ?_
  refine z_callS (As := [.int (iI ((w : Int)))]) (rest := []) (wc := []) (wr := []) (pc := 1) C dX4_parityOf_1 (k_J6_bitCount_0f7a4 l G (iI (w : Int)) ) gX4_parityOf_J6_bitCount_0f7a4 ⟨⟨_, rfl⟩, ⟨rfl, rfl⟩, nyJ6_bitCount_0f7a4, ⟨Nat.le_of_ble_eq_true rfl, Nat.le_of_ble_eq_true rfl⟩⟩ (fun h => h) rfl (Nat.le_of_ble_eq_true rfl) [] [] rfl rfl (by decide) (by decide) (by decide) ⟨Nat.le_of_ble_eq_true rfl, Nat.le_of_ble_eq_true rfl⟩ (fun v w hk => ?_)
  obtain ⟨rfl, rfl⟩ := hk
  refine z_fix (pc2 := 4) (st2 := [.int ((jpi (iI (w : Int))))]) (ws' := []) [] rfl rfl rfl (by decide) ?_
  refine z_top (y := iI (((zon w 8) : Nat) : Int)) (jpi_all w (by omega)) ?_
  refine z_iconst (pc := 4) C dX4_parityOf_4 ?_
  have hz8 := zon_b w 8
  refine z_iand (pc := 5) C dX4_parityOf_5 ⟨by omega, by omega⟩ ⟨by omega, by omega⟩ ?_
  refine z_topi (y := (((zon w 8 % 2) : Nat) : Int)) (by rw [zand1 (by omega)]; omega) ?_
  refine z_istore_n (lv' := [(2, .int (iI ((((zon w 8 % 2) : Nat) : Int)))), (0, .int (iI ((w : Int)))), (1, .int (iI q))]) (pc := 6) C dX4_parityOf_6 (by decide) rfl ?_
  refine z_iload_n (pc := 7) C dX4_parityOf_7 2 rfl ?_
  refine z_iconst (pc := 8) C dX4_parityOf_8 ?_
  refine z_icmp_ne (tgt := 16) (pc := 9) C dX4_parityOf_9 (by decide) ⟨by omega, by omega⟩ (by decide) (fun c9 => ?_) (fun c9 => ?_)
  · refine z_iconst (pc := 16) C dX4_parityOf_16 ?_
    refine z_iload_n (pc := 17) C dX4_parityOf_17 0 rfl ?_
    refine z_isub (pc := 18) C dX4_parityOf_18 ?_
    refine z_topi (y := (zpar q w)) (by unfold zpar; rw [if_neg c9]) ?_
    exact z_iret (pc := 19) C R0 dX4_parityOf_19 (⟨rfl, rfl⟩)
  · refine z_iload_n (pc := 12) C dX4_parityOf_12 0 rfl ?_
    refine z_goto (tgt := 19) (pc := 13) C dX4_parityOf_13 (by decide) ?_
    refine z_topi (y := (zpar q w)) (by unfold zpar; rw [if_pos c9]) ?_
    exact z_iret (pc := 19) C R0 dX4_parityOf_19 (⟨rfl, rfl⟩)

theorem ffX2_bitsOf_19 : zFF wsX2_bitsOf RX2 19 RX2 TX2 5 2 := ⟨by decide +kernel, by decide, by decide +kernel⟩
theorem nyX4_parityOf : yX4_parityOf.cls ≠ "java/lang/invoke/MethodHandle" ∧ yX4_parityOf.cls ≠ "java/lang/invoke/VarHandle" ∧ (parseMethodDescriptor yX4_parityOf.desc).map (fun d => d.parameters.length) = some 2 := by decide +kernel
set_option maxHeartbeats 4000000 in
set_option maxRecDepth 100000 in
theorem k_X2_bitsOf (l : Launch) (G : ZG) (h a1 a2 a3 : Nat) (b : Nat → Bool) (W S : Nat → Int) (e k : Nat) (hI : zI b W S e k) (w : Nat) (hw8 : w ≤ 255) : Kt l G yX2_bitsOf wsX2_bitsOf { frames := 2, cells := 0, slots := 0, locals := 42 } 0 0 False [.ref h, .int (iI ((w : Int)))] [(h, .inr (2, [.ref a1, .ref a2, .ref a3, .int (iI ((e : Int))), .int (iI ((k : Int)))])), cL G a1 24 (zrw b), cI G a2 37 W, cI G a3 5 S] (fun v9 w9 => v9 = some (.int (iI ((zbits S w)))) ∧ w9 = [(h, .inr (2, [.ref a1, .ref a2, .ref a3, .int (iI ((e : Int))), .int (iI ((k : Int)))])), cL G a1 24 (zrw b), cI G a2 37 W, cI G a3 5 S]) := by
  refine Kt.of (cc := cX2_bitsOf) (nL := 4) (ret := (some .int)) (own := RX2) rfl (by decide +kernel) rfl (Nat.le_of_ble_eq_true rfl) ?_
  intro X Y C R0 hin
  show Z l X G Y 4 0 0 0 [(0, .ref h), (1, .int (iI ((w : Int))))] [] [(h, .inr (2, [.ref a1, .ref a2, .ref a3, .int (iI ((e : Int))), .int (iI ((k : Int)))])), cL G a1 24 (zrw b), cI G a2 37 W, cI G a3 5 S]
  obtain ⟨he, hk, hb, s0, s1, s2, s3, s4, hw⟩ := id hI
  refine z_iload_n (pc := 0) C dX2_bitsOf_0 1 rfl ?_
  refine z_iconst (pc := 1) C dX2_bitsOf_1 ?_
  refine z_ishl (pc := 2) C dX2_bitsOf_2 (by omega) (by decide) (show (w : Int) * 2 ≤ 2147483647 by omega) ?_
  refine z_topi (y := (((2 * w) : Nat) : Int)) (show (w : Int) * 2 = _ by omega) ?_
  refine z_istore_n (lv' := [(2, .int (iI ((((2 * w) : Nat) : Int)))), (0, .ref h), (1, .int (iI ((w : Int))))]) (pc := 3) C dX2_bitsOf_3 (by decide) rfl ?_
  refine z_bipush (pc := 4) C dX2_bitsOf_4 (by decide +kernel) ?_
  refine z_istore_n (lv' := [(3, .int (iI 9)), (2, .int (iI ((((2 * w) : Nat) : Int)))), (0, .ref h), (1, .int (iI ((w : Int))))]) (pc := 6) C dX2_bitsOf_6 (by decide) rfl ?_
  refine z_aload_n (pc := 7) C dX2_bitsOf_7 2 rfl ?_
  refine z_get (pc := 8) C dX2_bitsOf_8 zCl2 ffX2_bitsOf_19 0 rfl rfl ?_
  refine z_iconst (pc := 11) C dX2_bitsOf_11 ?_
  refine z_iald (pc := 12) C dX2_bitsOf_12 3 rfl (2) (rfl) (by omega) (by decide) ?_
  refine z_if_eq (tgt := 35) (pc := 13) C dX2_bitsOf_13 (by decide) ⟨by omega, by omega⟩ (fun c13 => ?_) (fun c13 => ?_)
  · refine z_iload_n (pc := 35) C dX2_bitsOf_35 1 rfl ?_
    refine z_iconst (pc := 36) C dX2_bitsOf_36 ?_
    refine z_iload_n (pc := 37) C dX2_bitsOf_37 0 rfl ?_
    refine z_ishl (pc := 38) C dX2_bitsOf_38 (by decide) (by decide) (by decide) ?_
    refine z_ior (pc := 39) C dX2_bitsOf_39 ⟨by omega, by omega⟩ (by decide) ?_
    refine z_topi (y := (zbits S w)) (by rw [show (3 : Int) * 2 ^ (9 : Int).toNat = 3 * 2 ^ 9 from rfl, zor_add 9 (by omega) (by omega) (by omega)]; unfold zbits; rw [if_pos c13]; omega) ?_
    exact z_iret (pc := 40) C R0 dX2_bitsOf_40 (⟨rfl, rfl⟩)
  · refine z_iload_n (pc := 16) C dX2_bitsOf_16 1 rfl ?_
    refine z_iload_n (pc := 17) C dX2_bitsOf_17 3 rfl ?_
    refine z_aload_n (pc := 18) C dX2_bitsOf_18 2 rfl ?_
    refine z_get (pc := 19) C dX2_bitsOf_19 zCl2 ffX2_bitsOf_19 0 rfl rfl ?_
    refine z_iconst (pc := 22) C dX2_bitsOf_22 ?_
    refine z_iald (pc := 23) C dX2_bitsOf_23 3 rfl (2) (rfl) (by omega) (by decide) ?_
    refine z_callSN (As := [.int (iI ((w : Int))), .int (iI ((S 2)))]) (rest := [.int (iI ((((2 * w) : Nat) : Int)))]) (wc := []) (wr := [(h, .inr (2, [.ref a1, .ref a2, .ref a3, .int (iI ((e : Int))), .int (iI ((k : Int)))])), cL G a1 24 (zrw b), cI G a2 37 W, cI G a3 5 S]) (pc := 24) C dX2_bitsOf_24 (k_X4_parityOf l G w (S 2) hw8 ⟨by omega, by omega⟩) gX2_bitsOf_X4_parityOf_n90 ⟨⟨_, rfl⟩, ⟨rfl, rfl⟩, nyX4_parityOf, ⟨Nat.le_of_ble_eq_true rfl, Nat.le_of_ble_eq_true rfl⟩⟩ (fun h => h.2.1) (by decide +kernel) (by decide +kernel) (fun h => h) rfl (Nat.le_of_ble_eq_true rfl) [] [0, 1, 2, 3] rfl rfl (by decide) (by decide) (by decide) ⟨Nat.le_of_ble_eq_true rfl, Nat.le_of_ble_eq_true rfl⟩ (fun v w hk => ?_)
    obtain ⟨rfl, rfl⟩ := hk
    refine z_fix (pc2 := 27) (st2 := [.int (iI ((zpar (S 2) w))), .int (iI ((((2 * w) : Nat) : Int)))]) (ws' := [(h, .inr (2, [.ref a1, .ref a2, .ref a3, .int (iI ((e : Int))), .int (iI ((k : Int)))])), cL G a1 24 (zrw b), cI G a2 37 W, cI G a3 5 S]) [0, 1, 2, 3] rfl rfl rfl (by decide) ?_
    have hp := zpar_b (S 2) w
    refine z_bipush (pc := 27) C dX2_bitsOf_27 (by decide +kernel) ?_
    refine z_ishl (pc := 29) C dX2_bitsOf_29 hp.1 (by decide) (show zpar (S 2) w * 512 ≤ 2147483647 by omega) ?_
    refine z_topi (y := (zpar (S 2) w * 512)) (rfl) ?_
    refine z_ior (pc := 30) C dX2_bitsOf_30 ⟨by omega, by omega⟩ ⟨by omega, by omega⟩ ?_
    refine z_topi (y := (2 * (w : Int) + zpar (S 2) w * 512)) (zor_add (a := ((2 * w : Nat) : Int)) (c := zpar (S 2) w) 9 (by omega) (by omega) (by omega)) ?_
    refine z_istore_n (lv' := [(2, .int (iI ((2 * (w : Int) + zpar (S 2) w * 512)))), (3, .int (iI 9)), (0, .ref h), (1, .int (iI ((w : Int))))]) (pc := 31) C dX2_bitsOf_31 (by decide) rfl ?_
    refine z_iinc (lv' := [(3, .int (iI 10)), (2, .int (iI ((2 * (w : Int) + zpar (S 2) w * 512)))), (0, .ref h), (1, .int (iI ((w : Int))))]) (pc := 32) C dX2_bitsOf_32 1 rfl (by decide) rfl ?_
    refine z_iload_n (pc := 35) C dX2_bitsOf_35 1 rfl ?_
    refine z_iconst (pc := 36) C dX2_bitsOf_36 ?_
    refine z_iload_n (pc := 37) C dX2_bitsOf_37 0 rfl ?_
    refine z_ishl (pc := 38) C dX2_bitsOf_38 (by decide) (by decide) (by decide) ?_
    refine z_ior (pc := 39) C dX2_bitsOf_39 ⟨by omega, by omega⟩ (by decide) ?_
    refine z_topi (y := (zbits S w)) (by rw [show (3 : Int) * 2 ^ (10 : Int).toNat = 3 * 2 ^ 10 from rfl, zor_add 10 (by omega) (by omega) (by omega)]; unfold zbits; rw [if_neg c13]; omega) ?_
    exact z_iret (pc := 40) C R0 dX2_bitsOf_40 (⟨rfl, rfl⟩)

set_option maxHeartbeats 4000000 in
set_option maxRecDepth 100000 in
theorem k_J7_fill_d0a16 (l : Launch) (G : ZG) (a n : Nat) (F : Nat → Int64) (x : Int64) (hn0 : n ≤ 100000) : Kt l G yJ7_fill_d0a16 wsJ7_fill_d0a16 { frames := 0, cells := 0, slots := 0, locals := 0 } 0 0 False [.ref a, .long (x)] [cL G a n F] (fun v9 w9 => v9 = none ∧ w9 = [cL G a n (fun _ => x)]) := by
  refine Kt.of (cc := cJ7_fill_d0a16) (nL := 5) (ret := none) (own := RJ7) rfl (by decide +kernel) rfl (Nat.le_of_ble_eq_true rfl) ?_
  intro X Y C R0 hin
  show Z l X G Y 5 0 0 0 [(0, .ref a), (1, .long (x))] [] [cL G a n F]
  refine z_iconst (pc := 0) C dJ7_fill_d0a16_0 ?_
  refine z_istore_n (lv' := [(3, .int (iI 0)), (0, .ref a), (1, .long (x))]) (pc := 1) C dJ7_fill_d0a16_1 (by decide) rfl ?_
  refine z_aload_n (pc := 2) C dJ7_fill_d0a16_2 1 rfl ?_
  refine z_alen (pc := 3) C dJ7_fill_d0a16_3 0 1 rfl rfl ?_
  refine z_istore (lv' := [(4, .int (iI ((n : Int)))), (3, .int (iI 0)), (0, .ref a), (1, .long (x))]) (pc := 4) C dJ7_fill_d0a16_4 (by decide) rfl ?_
  have L6 : ∀ (m : Nat) (i : Nat) (F : Nat → Int64), n < i + m → i ≤ n → (∀ j, j < i → F j = x) → Z l X G Y 5 0 0 6 [(0, .ref a), (1, .long (x)), (3, .int (iI ((i : Int)))), (4, .int (iI ((n : Int))))] [] [cL G a n F] := by
    intro m
    induction m with
    | zero => intro i F hn hi hF; exact absurd hn (by omega)
    | succ m ih =>
      intro i F hn hi hF
      refine z_iload_n (pc := 6) C dJ7_fill_d0a16_6 2 rfl ?_
      refine z_iload (pc := 7) C dJ7_fill_d0a16_7 3 rfl ?_
      refine z_icmp_ge (tgt := 22) (pc := 9) C dJ7_fill_d0a16_9 (by decide) ⟨by omega, by omega⟩ ⟨by omega, by omega⟩ (fun c9 => ?_) (fun c9 => ?_)
      · refine z_rowL (F' := fun _ => x) (ws' := [cL G a n (fun _ => x)]) 0 rfl (fun j hj => hF j (by omega)) rfl ?_
        exact z_vret (pc := 22) C R0 dJ7_fill_d0a16_22 (⟨rfl, rfl⟩)
      · refine z_aload_n (pc := 12) C dJ7_fill_d0a16_12 0 rfl ?_
        refine z_iload_n (pc := 13) C dJ7_fill_d0a16_13 2 rfl ?_
        refine z_lload_n (pc := 14) C dJ7_fill_d0a16_14 1 rfl ?_
        refine z_last (ws' := [cL G a n (vp_updL F i x)]) (pc := 15) C dJ7_fill_d0a16_15 0 rfl (i) (by omega) (by omega) (hn0) rfl ?_
        refine z_iinc (lv' := [(3, .int (iI (((i : Int) + 1)))), (0, .ref a), (1, .long (x)), (4, .int (iI ((n : Int))))]) (pc := 16) C dJ7_fill_d0a16_16 2 rfl (by decide) rfl ?_
        refine z_goto (tgt := 6) (pc := 19) C dJ7_fill_d0a16_19 (by decide) ?_
        refine z_lv (lv' := [(0, .ref a), (1, .long (x)), (3, .int (iI (((i : Int) + 1)))), (4, .int (iI ((n : Int))))]) [1, 2, 0, 3] rfl ?_
        exact ih (i + 1) _ (by omega) (by omega) (fun j hj => by
          unfold vp_updL
          split
          · rfl
          · exact hF j (by omega))
  refine z_lv (lv' := [(0, .ref a), (1, .long (x)), (3, .int (iI 0)), (4, .int (iI ((n : Int))))]) [2, 3, 1, 0] rfl ?_
  exact L6 (n + 1) 0 F (by omega) (by omega) (fun j hj => absurd hj (by omega))

theorem ffX2_clearWire_11 : zFF wsX2_clearWire RX2 11 RX2 TX2 5 0 := ⟨by decide +kernel, by decide, by decide +kernel⟩
theorem nyJ7_fill_d0a16 : yJ7_fill_d0a16.cls ≠ "java/lang/invoke/MethodHandle" ∧ yJ7_fill_d0a16.cls ≠ "java/lang/invoke/VarHandle" ∧ (parseMethodDescriptor yJ7_fill_d0a16.desc).map (fun d => d.parameters.length) = some 2 := by decide +kernel
theorem ffX2_clearWire_39 : zFF wsX2_clearWire RX2 39 RX2 TX2 5 3 := ⟨by decide +kernel, by decide, by decide +kernel⟩
theorem ffX2_clearWire_43 : zFF wsX2_clearWire RX2 43 RX2 TX2 5 4 := ⟨by decide +kernel, by decide, by decide +kernel⟩
set_option maxHeartbeats 4000000 in
set_option maxRecDepth 100000 in
theorem k_X2_clearWire (l : Launch) (G : ZG) (h a1 a2 a3 : Nat) (b : Nat → Bool) (W S : Nat → Int) (e k : Nat) (hI : zI b W S e k) : Kt l G yX2_clearWire wsX2_clearWire { frames := 1, cells := 0, slots := 0, locals := 24 } 0 0 False [.ref h] [(h, .inr (2, [.ref a1, .ref a2, .ref a3, .int (iI ((e : Int))), .int (iI ((k : Int)))])), cL G a1 24 (zrw b), cI G a2 37 W, cI G a3 5 S] (fun v9 w9 => v9 = none ∧ w9 = [(h, .inr (2, [.ref a1, .ref a2, .ref a3, .int (iI ((0 : Int))), .int (iI ((0 : Int)))])), cL G a1 24 (zrw (fun _ => true)), cI G a2 37 W, cI G a3 5 S]) := by
  refine Kt.of (cc := cX2_clearWire) (nL := 1) (ret := none) (own := RX2) rfl (by decide +kernel) rfl (Nat.le_of_ble_eq_true rfl) ?_
  intro X Y C R0 hin
  show Z l X G Y 1 0 0 0 [(0, .ref h)] [] [(h, .inr (2, [.ref a1, .ref a2, .ref a3, .int (iI ((e : Int))), .int (iI ((k : Int)))])), cL G a1 24 (zrw b), cI G a2 37 W, cI G a3 5 S]
  obtain ⟨he, hk, hb, s0, s1, s2, s3, s4, hw⟩ := id hI
  refine z_aload_n (pc := 0) C dX2_clearWire_0 0 rfl ?_
  refine z_get (pc := 1) C dX2_clearWire_1 zCl2 ffX2_clearWire_11 0 rfl rfl ?_
  refine z_ldc2 (v := -1) (pc := 4) C dX2_clearWire_4 (by decide +kernel) ?_
  refine z_callS (As := [.ref a1, .long (-1)]) (rest := []) (wc := [cL G a1 24 (zrw b)]) (wr := [(h, .inr (2, [.ref a1, .ref a2, .ref a3, .int (iI ((e : Int))), .int (iI ((k : Int)))])), cI G a2 37 W, cI G a3 5 S]) (pc := 7) C dX2_clearWire_7 (k_J7_fill_d0a16 l G a1 24 (zrw b) (-1) (by decide)) gX2_clearWire_J7_fill_d0a16 ⟨⟨_, rfl⟩, ⟨rfl, rfl⟩, nyJ7_fill_d0a16, ⟨Nat.le_of_ble_eq_true rfl, Nat.le_of_ble_eq_true rfl⟩⟩ (fun h => h) rfl (Nat.le_of_ble_eq_true rfl) [1] [0, 2, 3] rfl rfl (by decide) (by decide) (by decide) ⟨Nat.le_of_ble_eq_true rfl, Nat.le_of_ble_eq_true rfl⟩ (fun v w hk => ?_)
  obtain ⟨rfl, rfl⟩ := hk
  refine z_fix (pc2 := 10) (st2 := []) (ws' := [(h, .inr (2, [.ref a1, .ref a2, .ref a3, .int (iI ((e : Int))), .int (iI ((k : Int)))])), cL G a1 24 (fun _ => (-1)), cI G a2 37 W, cI G a3 5 S]) [0, 3, 1, 2] rfl rfl rfl (by decide) ?_
  refine z_aload_n (pc := 10) C dX2_clearWire_10 0 rfl ?_
  refine z_iconst (pc := 11) C dX2_clearWire_11 ?_
  refine z_put (ty := .int) (ws' := [(h, .inr (2, [.ref a1, .ref a2, .ref a3, .int (iI 0), .int (iI ((k : Int)))])), cL G a1 24 (fun _ => (-1)), cI G a2 37 W, cI G a3 5 S]) (pc := 12) C dX2_clearWire_12 zCl2 ffX2_clearWire_39 0 rfl rfl rfl rfl rfl (Nat.le_of_ble_eq_true rfl) rfl ?_
  refine z_aload_n (pc := 15) C dX2_clearWire_15 0 rfl ?_
  refine z_iconst (pc := 16) C dX2_clearWire_16 ?_
  refine z_put (ty := .int) (ws' := [(h, .inr (2, [.ref a1, .ref a2, .ref a3, .int (iI 0), .int (iI 0)])), cL G a1 24 (fun _ => (-1)), cI G a2 37 W, cI G a3 5 S]) (pc := 17) C dX2_clearWire_17 zCl2 ffX2_clearWire_43 0 rfl rfl rfl rfl rfl (Nat.le_of_ble_eq_true rfl) rfl ?_
  refine z_rowL (F' := zrw (fun _ => true)) (ws' := [(h, .inr (2, [.ref a1, .ref a2, .ref a3, .int (iI 0), .int (iI 0)])), cL G a1 24 (zrw (fun _ => true)), cI G a2 37 W, cI G a3 5 S]) 1 rfl (fun j _ => by rw [zrw_true]) rfl ?_
  exact z_vret (pc := 20) C R0 dX2_clearWire_20 (⟨rfl, rfl⟩)

theorem ffX2_putLow_11 : zFF wsX2_putLow RX2 11 RX2 TX2 5 0 := ⟨by decide +kernel, by decide, by decide +kernel⟩
set_option maxHeartbeats 4000000 in
set_option maxRecDepth 100000 in
theorem k_X2_putLow (l : Launch) (G : ZG) (h a1 a2 a3 : Nat) (b : Nat → Bool) (W S : Nat → Int) (e k : Nat) (z1 z2 : Int) (f t : Nat) (hf : z1 = (f : Int)) (ht : z2 = (t : Int)) (hft : f ≤ t) (ht2 : t ≤ 1500) : Kt l G yX2_putLow wsX2_putLow { frames := 1, cells := 0, slots := 0, locals := 24 } 0 0 False [.ref h, .int (iI z1), .int (iI z2)] [(h, .inr (2, [.ref a1, .ref a2, .ref a3, .int (iI ((e : Int))), .int (iI ((k : Int)))])), cL G a1 24 (zrw b), cI G a2 37 W, cI G a3 5 S] (fun v9 w9 => v9 = none ∧ w9 = [(h, .inr (2, [.ref a1, .ref a2, .ref a3, .int (iI ((e : Int))), .int (iI ((k : Int)))])), cL G a1 24 (zrw (zlow b f t)), cI G a2 37 W, cI G a3 5 S]) := by
  refine Kt.of (cc := cX2_putLow) (nL := 4) (ret := none) (own := RX2) rfl (by decide +kernel) rfl (Nat.le_of_ble_eq_true rfl) ?_
  intro X Y C R0 hin
  show Z l X G Y 4 0 0 0 [(0, .ref h), (1, .int (iI z1)), (2, .int (iI z2))] [] [(h, .inr (2, [.ref a1, .ref a2, .ref a3, .int (iI ((e : Int))), .int (iI ((k : Int)))])), cL G a1 24 (zrw b), cI G a2 37 W, cI G a3 5 S]
  refine z_iload_n (pc := 0) C dX2_putLow_0 1 rfl ?_
  refine z_iconst (pc := 1) C dX2_putLow_1 ?_
  refine z_max (pc := 2) C dX2_putLow_2 (by decide +kernel) (by decide +kernel) (by decide +kernel) (by decide +kernel) (by decide) (Nat.le_of_ble_eq_true rfl) (by decide) (by decide) ⟨by omega, by omega⟩ (by decide) (((f : Nat) : Int)) ⟨fun _ => by omega, fun _ => by omega⟩ ?_
  refine z_istore_n (lv' := [(3, .int (iI ((f : Int)))), (0, .ref h), (1, .int (iI z1)), (2, .int (iI z2))]) (pc := 5) C dX2_putLow_5 (by decide) rfl ?_
  have L6 : ∀ (n : Nat) (i : Nat), t < i + n → f ≤ i → i ≤ t → Z l X G Y 4 0 0 6 [(0, .ref h), (1, .int (iI ((f : Int)))), (2, .int (iI ((t : Int)))), (3, .int (iI ((i : Int))))] [] [(h, .inr (2, [.ref a1, .ref a2, .ref a3, .int (iI ((e : Int))), .int (iI ((k : Int)))])), cL G a1 24 (zrw (zlow b f i)), cI G a2 37 W, cI G a3 5 S] := by
    intro n
    induction n with
    | zero => intro i hn hi hi2; exact absurd hn (by omega)
    | succ n ih =>
      intro i hn hi hi2
      refine z_iload_n (pc := 6) C dX2_putLow_6 3 rfl ?_
      refine z_iload_n (pc := 7) C dX2_putLow_7 2 rfl ?_
      refine z_icmp_ge (tgt := 46) (pc := 8) C dX2_putLow_8 (by decide) ⟨by omega, by omega⟩ ⟨by omega, by omega⟩ (fun c8 => ?_) (fun c8 => ?_)
      · obtain rfl : i = t := by omega
        exact z_vret (pc := 46) C R0 dX2_putLow_46 (⟨rfl, rfl⟩)
      · refine z_iload_n (pc := 11) C dX2_putLow_11 3 rfl ?_
        refine z_sipush (pc := 12) C dX2_putLow_12 (by decide +kernel) ?_
        refine z_icmp_ge (tgt := 46) (pc := 15) C dX2_putLow_15 (by decide) ⟨by omega, by omega⟩ (by decide) (fun c15 => ?_) (fun c15 => ?_)
        · exfalso; omega
        · refine z_aload_n (pc := 18) C dX2_putLow_18 0 rfl ?_
          refine z_get (pc := 19) C dX2_putLow_19 zCl2 ffX2_putLow_11 0 rfl rfl ?_
          refine z_iload_n (pc := 22) C dX2_putLow_22 3 rfl ?_
          refine z_bipush (pc := 23) C dX2_putLow_23 (by decide +kernel) ?_
          refine z_idiv (pc := 25) C dX2_putLow_25 ⟨by omega, by omega⟩ (by decide) ?_
          refine z_dup2 (pc := 26) C dX2_putLow_26 rfl rfl ?_
          refine z_lald (pc := 27) C dX2_putLow_27 1 rfl ((i / 64)) (by omega) (by omega) (by decide) ?_
          refine z_lconst (pc := 28) C 1 dX2_putLow_28 (by decide +kernel) ?_
          refine z_iload_n (pc := 29) C dX2_putLow_29 3 rfl ?_
          refine z_bipush (pc := 30) C dX2_putLow_30 (by decide +kernel) ?_
          refine z_irem (pc := 32) C dX2_putLow_32 ⟨by omega, by omega⟩ (by decide) ?_
          refine z_lshl (pc := 33) C (i % 64) (by omega) ⟨by omega, by omega⟩ dX2_putLow_33 ?_
          refine z_ldc2 (v := -1) (pc := 34) C dX2_putLow_34 (by decide +kernel) ?_
          refine z_lxor (pc := 37) C dX2_putLow_37 ?_
          refine z_land (pc := 38) C dX2_putLow_38 ?_
          refine z_last (ws' := [(h, .inr (2, [.ref a1, .ref a2, .ref a3, .int (iI ((e : Int))), .int (iI ((k : Int)))])), cL G a1 24 (vp_updL (zrw (zlow b f i)) (i / 64) (((zrw (zlow b f i)) (i / 64)) &&& ((zsl 1 (i % 64)) ^^^ -1))), cI G a2 37 W, cI G a3 5 S]) (pc := 39) C dX2_putLow_39 1 rfl ((i / 64)) (by omega) (by omega) (by decide) rfl ?_
          refine z_iinc (lv' := [(3, .int (iI (((i : Int) + 1)))), (0, .ref h), (1, .int (iI ((f : Int)))), (2, .int (iI ((t : Int))))]) (pc := 40) C dX2_putLow_40 3 rfl (by decide) rfl ?_
          refine z_goto (tgt := 6) (pc := 43) C dX2_putLow_43 (by decide) ?_
          refine z_lv (lv' := [(0, .ref h), (1, .int (iI ((f : Int)))), (2, .int (iI ((t : Int)))), (3, .int (iI (((i : Int) + 1))))]) [1, 2, 3, 0] rfl ?_
          refine z_rowL (F' := zrw (zlow b f (i + 1))) (ws' := [(h, .inr (2, [.ref a1, .ref a2, .ref a3, .int (iI (e : Int)), .int (iI (k : Int))])), cL G a1 24 (zrw (zlow b f (i + 1))), cI G a2 37 W, cI G a3 5 S]) 1 rfl (fun j _ => by rw [zrw_low, zlow_s b hi]) rfl ?_
          exact ih (i + 1) (by omega) (by omega) (by omega)
  refine z_lv (lv' := [(0, .ref h), (1, .int (iI z1)), (2, .int (iI z2)), (3, .int (iI ((f : Int))))]) [1, 2, 3, 0] rfl ?_
  subst hf ht
  refine z_ws (ws' := [(h, .inr (2, [.ref a1, .ref a2, .ref a3, .int (iI (e : Int)), .int (iI (k : Int))])), cL G a1 24 (zrw (zlow b f f)), cI G a2 37 W, cI G a3 5 S]) [0, 1, 2, 3] (by rw [zlow_0 b (Nat.le_refl f)]; rfl) (by decide) ?_
  exact L6 (t + 1) f (by omega) (by omega) (by omega)

theorem ffX2_fallsIn_11 : zFF wsX2_fallsIn RX2 11 RX2 TX2 5 0 := ⟨by decide +kernel, by decide, by decide +kernel⟩
set_option maxHeartbeats 4000000 in
set_option maxRecDepth 100000 in
theorem k_X2_fallsIn (l : Launch) (G : ZG) (h a1 a2 a3 : Nat) (b : Nat → Bool) (W S : Nat → Int) (e k : Nat) (hI : zI b W S e k) (z : Int) (j : Nat) (hz : z = (j : Int)) (hj : j < 24) : Kt l G yX2_fallsIn wsX2_fallsIn { frames := 0, cells := 0, slots := 0, locals := 0 } 0 0 False [.ref h, .int (iI z)] [(h, .inr (2, [.ref a1, .ref a2, .ref a3, .int (iI ((e : Int))), .int (iI ((k : Int)))])), cL G a1 24 (zrw b), cI G a2 37 W, cI G a3 5 S] (fun v9 w9 => v9 = some (.long ((zrw (zfall b) j))) ∧ w9 = [(h, .inr (2, [.ref a1, .ref a2, .ref a3, .int (iI ((e : Int))), .int (iI ((k : Int)))])), cL G a1 24 (zrw b), cI G a2 37 W, cI G a3 5 S]) := by
  refine Kt.of (cc := cX2_fallsIn) (nL := 4) (ret := (some .long)) (own := RX2) rfl (by decide +kernel) rfl (Nat.le_of_ble_eq_true rfl) ?_
  intro X Y C R0 hin
  show Z l X G Y 4 0 0 0 [(0, .ref h), (1, .int (iI z))] [] [(h, .inr (2, [.ref a1, .ref a2, .ref a3, .int (iI ((e : Int))), .int (iI ((k : Int)))])), cL G a1 24 (zrw b), cI G a2 37 W, cI G a3 5 S]
  obtain ⟨he, hk, hb, s0, s1, s2, s3, s4, hw⟩ := id hI
  refine z_iload_n (pc := 0) C dX2_fallsIn_0 1 rfl ?_
  refine z_if_lt (tgt := 10) (pc := 1) C dX2_fallsIn_1 (by decide) ⟨by omega, by omega⟩ (fun c1 => ?_) (fun c1 => ?_)
  · exfalso; omega
  · refine z_iload_n (pc := 4) C dX2_fallsIn_4 1 rfl ?_
    refine z_bipush (pc := 5) C dX2_fallsIn_5 (by decide +kernel) ?_
    refine z_icmp_lt (tgt := 12) (pc := 7) C dX2_fallsIn_7 (by decide) ⟨by omega, by omega⟩ (by decide) (fun c7 => ?_) (fun c7 => ?_)
    · refine z_iload_n (pc := 12) C dX2_fallsIn_12 1 rfl ?_
      refine z_if_ne (tgt := 20) (pc := 13) C dX2_fallsIn_13 (by decide) ⟨by omega, by omega⟩ (fun c13 => ?_) (fun c13 => ?_)
      · refine z_aload_n (pc := 20) C dX2_fallsIn_20 0 rfl ?_
        refine z_get (pc := 21) C dX2_fallsIn_21 zCl2 ffX2_fallsIn_11 0 rfl rfl ?_
        refine z_iload_n (pc := 24) C dX2_fallsIn_24 1 rfl ?_
        refine z_iconst (pc := 25) C dX2_fallsIn_25 ?_
        refine z_isub (pc := 26) C dX2_fallsIn_26 ?_
        refine z_lald (pc := 27) C dX2_fallsIn_27 1 rfl ((j - 1)) (by omega) (by omega) (by decide) ?_
        refine z_bipush (pc := 28) C dX2_fallsIn_28 (by decide +kernel) ?_
        refine z_lushr (pc := 30) C (63) (by omega) ⟨by omega, by omega⟩ dX2_fallsIn_30 ?_
        refine z_lstore_n (lv' := [(2, .long ((zsr ((zrw b) (j - 1)) (63)))), (0, .ref h), (1, .int (iI z))]) (pc := 31) C dX2_fallsIn_31 (by decide) rfl ?_
        refine z_aload_n (pc := 32) C dX2_fallsIn_32 1 rfl ?_
        refine z_get (pc := 33) C dX2_fallsIn_33 zCl2 ffX2_fallsIn_11 0 rfl rfl ?_
        refine z_iload_n (pc := 36) C dX2_fallsIn_36 2 rfl ?_
        refine z_lald (pc := 37) C dX2_fallsIn_37 1 rfl (j) (hz) (by omega) (by decide) ?_
        refine z_iconst (pc := 38) C dX2_fallsIn_38 ?_
        refine z_lshl (pc := 39) C (1) (by omega) ⟨by omega, by omega⟩ dX2_fallsIn_39 ?_
        refine z_lload_n (pc := 40) C dX2_fallsIn_40 0 rfl ?_
        refine z_lor (pc := 41) C dX2_fallsIn_41 ?_
        refine z_aload_n (pc := 42) C dX2_fallsIn_42 1 rfl ?_
        refine z_get (pc := 43) C dX2_fallsIn_43 zCl2 ffX2_fallsIn_11 0 rfl rfl ?_
        refine z_iload_n (pc := 46) C dX2_fallsIn_46 2 rfl ?_
        refine z_lald (pc := 47) C dX2_fallsIn_47 1 rfl (j) (hz) (by omega) (by decide) ?_
        refine z_ldc2 (v := -1) (pc := 48) C dX2_fallsIn_48 (by decide +kernel) ?_
        refine z_lxor (pc := 51) C dX2_fallsIn_51 ?_
        refine z_land (pc := 52) C dX2_fallsIn_52 ?_
        refine z_topl (y := (zrw (zfall b) j)) (zrw_falls b j _ (by rw [if_neg (by omega)])) ?_
        exact z_lret (pc := 53) C R0 dX2_fallsIn_53 (⟨rfl, rfl⟩)
      · refine z_lconst (pc := 16) C 1 dX2_fallsIn_16 (by decide +kernel) ?_
        refine z_goto (tgt := 31) (pc := 17) C dX2_fallsIn_17 (by decide) ?_
        refine z_lstore_n (lv' := [(2, .long (1)), (0, .ref h), (1, .int (iI z))]) (pc := 31) C dX2_fallsIn_31 (by decide) rfl ?_
        refine z_aload_n (pc := 32) C dX2_fallsIn_32 1 rfl ?_
        refine z_get (pc := 33) C dX2_fallsIn_33 zCl2 ffX2_fallsIn_11 0 rfl rfl ?_
        refine z_iload_n (pc := 36) C dX2_fallsIn_36 2 rfl ?_
        refine z_lald (pc := 37) C dX2_fallsIn_37 1 rfl (j) (hz) (by omega) (by decide) ?_
        refine z_iconst (pc := 38) C dX2_fallsIn_38 ?_
        refine z_lshl (pc := 39) C (1) (by omega) ⟨by omega, by omega⟩ dX2_fallsIn_39 ?_
        refine z_lload_n (pc := 40) C dX2_fallsIn_40 0 rfl ?_
        refine z_lor (pc := 41) C dX2_fallsIn_41 ?_
        refine z_aload_n (pc := 42) C dX2_fallsIn_42 1 rfl ?_
        refine z_get (pc := 43) C dX2_fallsIn_43 zCl2 ffX2_fallsIn_11 0 rfl rfl ?_
        refine z_iload_n (pc := 46) C dX2_fallsIn_46 2 rfl ?_
        refine z_lald (pc := 47) C dX2_fallsIn_47 1 rfl (j) (hz) (by omega) (by decide) ?_
        refine z_ldc2 (v := -1) (pc := 48) C dX2_fallsIn_48 (by decide +kernel) ?_
        refine z_lxor (pc := 51) C dX2_fallsIn_51 ?_
        refine z_land (pc := 52) C dX2_fallsIn_52 ?_
        refine z_topl (y := (zrw (zfall b) j)) (zrw_falls b j _ (by rw [if_pos (by omega)])) ?_
        exact z_lret (pc := 53) C R0 dX2_fallsIn_53 (⟨rfl, rfl⟩)
    · exfalso; omega

theorem ffX2_levelAt_39 : zFF wsX2_levelAt RX2 39 RX2 TX2 5 3 := ⟨by decide +kernel, by decide, by decide +kernel⟩
theorem ffX2_levelAt_11 : zFF wsX2_levelAt RX2 11 RX2 TX2 5 0 := ⟨by decide +kernel, by decide, by decide +kernel⟩
set_option maxHeartbeats 4000000 in
set_option maxRecDepth 100000 in
theorem k_X2_levelAt (l : Launch) (G : ZG) (h a1 a2 a3 : Nat) (b : Nat → Bool) (W S : Nat → Int) (e k : Nat) (hI : zI b W S e k) (z : Int) (hz : iR z) : Kt l G yX2_levelAt wsX2_levelAt { frames := 0, cells := 0, slots := 0, locals := 0 } 0 0 False [.ref h, .int (iI z)] [(h, .inr (2, [.ref a1, .ref a2, .ref a3, .int (iI ((e : Int))), .int (iI ((k : Int)))])), cL G a1 24 (zrw b), cI G a2 37 W, cI G a3 5 S] (fun v9 w9 => v9 = some (.int (iI ((zlv b z)))) ∧ w9 = [(h, .inr (2, [.ref a1, .ref a2, .ref a3, .int (iI ((e : Int))), .int (iI ((k : Int)))])), cL G a1 24 (zrw b), cI G a2 37 W, cI G a3 5 S]) := by
  refine Kt.of (cc := cX2_levelAt) (nL := 2) (ret := (some .int)) (own := RX2) rfl (by decide +kernel) rfl (Nat.le_of_ble_eq_true rfl) ?_
  intro X Y C R0 hin
  show Z l X G Y 2 0 0 0 [(0, .ref h), (1, .int (iI z))] [] [(h, .inr (2, [.ref a1, .ref a2, .ref a3, .int (iI ((e : Int))), .int (iI ((k : Int)))])), cL G a1 24 (zrw b), cI G a2 37 W, cI G a3 5 S]
  obtain ⟨he, hk, hb, s0, s1, s2, s3, s4, hw⟩ := id hI
  refine z_iload_n (pc := 0) C dX2_levelAt_0 1 rfl ?_
  refine z_if_lt (tgt := 12) (pc := 1) C dX2_levelAt_1 (by decide) ⟨by omega, by omega⟩ (fun c1 => ?_) (fun c1 => ?_)
  · refine z_iconst (pc := 12) C dX2_levelAt_12 ?_
    refine z_topi (y := (zlv b z)) ((zlv_neg c1).symm) ?_
    exact z_iret (pc := 13) C R0 dX2_levelAt_13 (⟨rfl, rfl⟩)
  · refine z_iload_n (pc := 4) C dX2_levelAt_4 1 rfl ?_
    refine z_aload_n (pc := 5) C dX2_levelAt_5 0 rfl ?_
    refine z_get (pc := 6) C dX2_levelAt_6 zCl2 ffX2_levelAt_39 0 rfl rfl ?_
    refine z_icmp_lt (tgt := 14) (pc := 9) C dX2_levelAt_9 (by decide) ⟨by omega, by omega⟩ ⟨by omega, by omega⟩ (fun c9 => ?_) (fun c9 => ?_)
    · refine z_aload_n (pc := 14) C dX2_levelAt_14 0 rfl ?_
      refine z_get (pc := 15) C dX2_levelAt_15 zCl2 ffX2_levelAt_11 0 rfl rfl ?_
      refine z_iload_n (pc := 18) C dX2_levelAt_18 1 rfl ?_
      refine z_bipush (pc := 19) C dX2_levelAt_19 (by decide +kernel) ?_
      refine z_idiv (pc := 21) C dX2_levelAt_21 ⟨by omega, by omega⟩ (by decide) ?_
      refine z_lald (pc := 22) C dX2_levelAt_22 1 rfl ((z.toNat / 64)) (by omega) (by omega) (by decide) ?_
      refine z_iload_n (pc := 23) C dX2_levelAt_23 1 rfl ?_
      refine z_bipush (pc := 24) C dX2_levelAt_24 (by decide +kernel) ?_
      refine z_irem (pc := 26) C dX2_levelAt_26 ⟨by omega, by omega⟩ (by decide) ?_
      refine z_lushr (pc := 27) C (z.toNat % 64) (by omega) ⟨by omega, by omega⟩ dX2_levelAt_27 ?_
      refine z_lconst (pc := 28) C 1 dX2_levelAt_28 (by decide +kernel) ?_
      refine z_land (pc := 29) C dX2_levelAt_29 ?_
      refine z_l2i (z := (((b z.toNat).toNat : Nat) : Int)) (pc := 30) C (zrw_lev b z.toNat) dX2_levelAt_30 ?_
      refine z_topi (y := (zlv b z)) (by unfold zlv; rw [if_neg (by omega)]) ?_
      exact z_iret (pc := 31) C R0 dX2_levelAt_31 (⟨rfl, rfl⟩)
    · refine z_iconst (pc := 12) C dX2_levelAt_12 ?_
      refine z_topi (y := (zlv b z)) ((zlv_high (hb _ (by omega))).symm) ?_
      exact z_iret (pc := 13) C R0 dX2_levelAt_13 (⟨rfl, rfl⟩)

theorem ffX2_nextFall_39 : zFF wsX2_nextFall RX2 39 RX2 TX2 5 3 := ⟨by decide +kernel, by decide, by decide +kernel⟩
theorem nyX2_fallsIn : yX2_fallsIn.cls ≠ "java/lang/invoke/MethodHandle" ∧ yX2_fallsIn.cls ≠ "java/lang/invoke/VarHandle" ∧ (parseMethodDescriptor yX2_fallsIn.desc).map (fun d => d.parameters.length) = some 1 := by decide +kernel
theorem nyJ13_bitCount_95d88 : yJ13_bitCount_95d88.cls ≠ "java/lang/invoke/MethodHandle" ∧ yJ13_bitCount_95d88.cls ≠ "java/lang/invoke/VarHandle" ∧ (parseMethodDescriptor yJ13_bitCount_95d88.desc).map (fun d => d.parameters.length) = some 1 := by decide +kernel
set_option maxHeartbeats 4000000 in
set_option maxRecDepth 100000 in
theorem k_X2_nextFall (l : Launch) (G : ZG) (h a1 a2 a3 : Nat) (b : Nat → Bool) (W S : Nat → Int) (e k : Nat) (hI : zI b W S e k) (z : Int) (t : Nat) (hz : z = (t : Int)) (ht : t ≤ 100000) : Kt l G yX2_nextFall wsX2_nextFall { frames := 1, cells := 0, slots := 0, locals := 24 } 0 0 False [.ref h, .int (iI z)] [(h, .inr (2, [.ref a1, .ref a2, .ref a3, .int (iI ((e : Int))), .int (iI ((k : Int)))])), cL G a1 24 (zrw b), cI G a2 37 W, cI G a3 5 S] (fun v9 w9 => v9 = some (.int (iI ((((znf b e t) : Nat) : Int)))) ∧ w9 = [(h, .inr (2, [.ref a1, .ref a2, .ref a3, .int (iI ((e : Int))), .int (iI ((k : Int)))])), cL G a1 24 (zrw b), cI G a2 37 W, cI G a3 5 S]) := by
  refine Kt.of (cc := cX2_nextFall) (nL := 9) (ret := (some .int)) (own := RX2) rfl (by decide +kernel) rfl (Nat.le_of_ble_eq_true rfl) ?_
  intro X Y C R0 hin
  show Z l X G Y 9 0 0 0 [(0, .ref h), (1, .int (iI z))] [] [(h, .inr (2, [.ref a1, .ref a2, .ref a3, .int (iI ((e : Int))), .int (iI ((k : Int)))])), cL G a1 24 (zrw b), cI G a2 37 W, cI G a3 5 S]
  obtain ⟨he, hk, hb, s0, s1, s2, s3, s4, hw⟩ := id hI
  refine z_iload_n (pc := 0) C dX2_nextFall_0 1 rfl ?_
  refine z_iconst (pc := 1) C dX2_nextFall_1 ?_
  refine z_max (pc := 2) C dX2_nextFall_2 (by decide +kernel) (by decide +kernel) (by decide +kernel) (by decide +kernel) (by decide) (Nat.le_of_ble_eq_true rfl) (by decide) (by decide) ⟨by omega, by omega⟩ (by decide) (((t : Nat) : Int)) ⟨fun _ => by omega, fun _ => by omega⟩ ?_
  refine z_istore_n (lv' := [(2, .int (iI ((t : Int)))), (0, .ref h), (1, .int (iI z))]) (pc := 5) C dX2_nextFall_5 (by decide) rfl ?_
  refine z_iload_n (pc := 6) C dX2_nextFall_6 0 rfl ?_
  refine z_bipush (pc := 7) C dX2_nextFall_7 (by decide +kernel) ?_
  refine z_idiv (pc := 9) C dX2_nextFall_9 ⟨by omega, by omega⟩ (by decide) ?_
  refine z_istore_n (lv' := [(3, .int (iI (((t : Int) / 64)))), (2, .int (iI ((t : Int)))), (0, .ref h), (1, .int (iI z))]) (pc := 10) C dX2_nextFall_10 (by decide) rfl ?_
  refine z_iload_n (pc := 11) C dX2_nextFall_11 0 rfl ?_
  refine z_istore (lv' := [(4, .int (iI (((t : Int) / 64)))), (3, .int (iI (((t : Int) / 64)))), (2, .int (iI ((t : Int)))), (0, .ref h), (1, .int (iI z))]) (pc := 12) C dX2_nextFall_12 (by decide) rfl ?_
  have L14 : ∀ (n : Nat) (i u : Nat), 1600 < i + n → i ≤ 1600 → (i = t / 64 ∧ u = t ∨ t / 64 < i ∧ u = 64 * i) → znf b e u = znf b e t → Z l X G Y 9 0 0 14 [(0, .ref h), (1, .int (iI ((t : Int)))), (2, .int (iI ((t : Int)))), (3, .int (iI (((t : Int) / 64)))), (4, .int (iI ((i : Int))))] [] [(h, .inr (2, [.ref a1, .ref a2, .ref a3, .int (iI ((e : Int))), .int (iI ((k : Int)))])), cL G a1 24 (zrw b), cI G a2 37 W, cI G a3 5 S] := by
    intro n
    induction n with
    | zero => intro i u hn hi hu hq; exact absurd hn (by omega)
    | succ n ih =>
      intro i u hn hi hu hq
      refine z_iload (pc := 14) C dX2_nextFall_14 4 rfl ?_
      refine z_bipush (pc := 16) C dX2_nextFall_16 (by decide +kernel) ?_
      refine z_icmp_ge (tgt := 83) (pc := 18) C dX2_nextFall_18 (by decide) ⟨by omega, by omega⟩ (by decide) (fun c18 => ?_) (fun c18 => ?_)
      · refine z_aload_n (pc := 83) C dX2_nextFall_83 0 rfl ?_
        refine z_get (pc := 84) C dX2_nextFall_84 zCl2 ffX2_nextFall_39 0 rfl rfl ?_
        refine z_topi (y := (((znf b e t) : Nat) : Int)) (by rw [← hq, znf_end (by omega)]) ?_
        exact z_iret (pc := 87) C R0 dX2_nextFall_87 (⟨rfl, rfl⟩)
      · refine z_aload_n (pc := 21) C dX2_nextFall_21 0 rfl ?_
        refine z_iload (pc := 22) C dX2_nextFall_22 4 rfl ?_
        refine z_callV (As := [.int (iI ((i : Int)))]) (rest := []) (wc := [(h, .inr (2, [.ref a1, .ref a2, .ref a3, .int (iI ((e : Int))), .int (iI ((k : Int)))])), cL G a1 24 (zrw b), cI G a2 37 W, cI G a3 5 S]) (wr := []) (fs := [.ref a1, .ref a2, .ref a3, .int (iI ((e : Int))), .int (iI ((k : Int)))]) (pc := 24) C dX2_nextFall_24 (k_X2_fallsIn l G h a1 a2 a3 b W S e k hI (i : Int) i rfl (by omega)) gX2_nextFall_X2_fallsIn ⟨⟨_, rfl⟩, ⟨rfl, rfl⟩, nyX2_fallsIn, ⟨Nat.le_of_ble_eq_true rfl, Nat.le_of_ble_eq_true rfl⟩⟩ rfl zCl2 rfl (fun h => h) rfl (Nat.le_of_ble_eq_true rfl) [0, 1, 2, 3] [] rfl rfl (by decide) (by decide) (by decide) ⟨Nat.le_of_ble_eq_true rfl, Nat.le_of_ble_eq_true rfl⟩ (fun v w hk => ?_)
        obtain ⟨rfl, rfl⟩ := hk
        refine z_fix (pc2 := 27) (st2 := [.long ((zrw (zfall b) i))]) (ws' := [(h, .inr (2, [.ref a1, .ref a2, .ref a3, .int (iI ((e : Int))), .int (iI ((k : Int)))])), cL G a1 24 (zrw b), cI G a2 37 W, cI G a3 5 S]) [0, 1, 2, 3] rfl rfl rfl (by decide) ?_
        refine z_lstore (lv' := [(5, .long ((zrw (zfall b) i))), (0, .ref h), (1, .int (iI ((t : Int)))), (2, .int (iI ((t : Int)))), (3, .int (iI (((t : Int) / 64)))), (4, .int (iI ((i : Int))))]) (pc := 27) C dX2_nextFall_27 (by decide) rfl ?_
        have J48 : ∀ (x : Int64), (∀ k, k < 64 → ib x k = (zfall b (64 * i + k) && decide (u ≤ 64 * i + k))) → Z l X G Y 9 0 0 48 [(0, .ref h), (1, .int (iI ((t : Int)))), (2, .int (iI ((t : Int)))), (3, .int (iI (((t : Int) / 64)))), (4, .int (iI ((i : Int)))), (5, .long (x))] [] [(h, .inr (2, [.ref a1, .ref a2, .ref a3, .int (iI ((e : Int))), .int (iI ((k : Int)))])), cL G a1 24 (zrw b), cI G a2 37 W, cI G a3 5 S] := by
          intro x hx
          refine z_lload (pc := 48) C dX2_nextFall_48 5 rfl ?_
          refine z_lconst (pc := 50) C 0 dX2_nextFall_50 (by decide +kernel) ?_
          refine z_lcmp (pc := 51) C dX2_nextFall_51 (fun c51 => ?_) (fun c51 z51 hz51 => ?_)
          · refine z_if_eq (tgt := 77) (pc := 52) C dX2_nextFall_52 (by decide) (by decide) (fun c52 => ?_) (fun c52 => ?_)
            · refine z_iinc (lv' := [(4, .int (iI (((i : Int) + 1)))), (0, .ref h), (1, .int (iI ((t : Int)))), (2, .int (iI ((t : Int)))), (3, .int (iI (((t : Int) / 64)))), (5, .long (x))]) (pc := 77) C dX2_nextFall_77 4 rfl (by decide) rfl ?_
              refine z_goto (tgt := 14) (pc := 80) C dX2_nextFall_80 (by decide) ?_
              refine z_lv (lv' := [(0, .ref h), (1, .int (iI ((t : Int)))), (2, .int (iI ((t : Int)))), (3, .int (iI (((t : Int) / 64)))), (4, .int (iI (((i : Int) + 1))))]) [1, 2, 3, 4, 0] rfl ?_
              exact ih (i + 1) (64 * (i + 1)) (by omega) (by omega) (Or.inr ⟨by omega, rfl⟩) (by
                rw [← hq]
                have hsk := znf_skip (b := b) (e := e) (64 * (i + 1) - u) u (fun j h1 h2 _ => by
                  have hz0 := hx (j - 64 * i) (by omega)
                  rw [c51, ib_0, show 64 * i + (j - 64 * i) = j by omega, decide_eq_true h1, Bool.and_true] at hz0
                  exact hz0.symm)
                rw [hsk, show u + (64 * (i + 1) - u) = 64 * (i + 1) by omega])
            · exfalso; omega
          · refine z_if_eq (tgt := 77) (pc := 52) C dX2_nextFall_52 (by decide) ⟨by omega, by omega⟩ (fun c52 => ?_) (fun c52 => ?_)
            · exfalso; omega
            · obtain ⟨i0, hi0, hi1, hi2, hi3⟩ := zlow1 c51
              refine z_lload (pc := 55) C dX2_nextFall_55 5 rfl ?_
              refine z_lload (pc := 57) C dX2_nextFall_57 5 rfl ?_
              refine z_lneg (pc := 59) C dX2_nextFall_59 ?_
              refine z_land (pc := 60) C dX2_nextFall_60 ?_
              refine z_lstore (lv' := [(7, .long ((x &&& (-x)))), (0, .ref h), (1, .int (iI ((t : Int)))), (2, .int (iI ((t : Int)))), (3, .int (iI (((t : Int) / 64)))), (4, .int (iI ((i : Int)))), (5, .long (x))]) (pc := 61) C dX2_nextFall_61 (by decide) rfl ?_
              refine z_iload (pc := 63) C dX2_nextFall_63 5 rfl ?_
              refine z_bipush (pc := 65) C dX2_nextFall_65 (by decide +kernel) ?_
              refine z_imul (pc := 67) C dX2_nextFall_67 ?_
              refine z_lload (pc := 68) C dX2_nextFall_68 0 rfl ?_
              refine z_lconst (pc := 70) C 1 dX2_nextFall_70 (by decide +kernel) ?_
              refine z_lsub (pc := 71) C dX2_nextFall_71 ?_
              refine z_callS (As := [.long (((x &&& (-x)) - 1))]) (rest := [.int (iI (((i : Int) * 64)))]) (wc := []) (wr := [(h, .inr (2, [.ref a1, .ref a2, .ref a3, .int (iI ((e : Int))), .int (iI ((k : Int)))])), cL G a1 24 (zrw b), cI G a2 37 W, cI G a3 5 S]) (pc := 72) C dX2_nextFall_72 (k_J13_bitCount_95d88 l G ((x &&& (-x)) - 1) ) gX2_nextFall_J13_bitCount_95d88 ⟨⟨_, rfl⟩, ⟨rfl, rfl⟩, nyJ13_bitCount_95d88, ⟨Nat.le_of_ble_eq_true rfl, Nat.le_of_ble_eq_true rfl⟩⟩ (fun h => h) rfl (Nat.le_of_ble_eq_true rfl) [] [0, 1, 2, 3] rfl rfl (by decide) (by decide) (by decide) ⟨Nat.le_of_ble_eq_true rfl, Nat.le_of_ble_eq_true rfl⟩ (fun v w hk => ?_)
              obtain ⟨rfl, rfl⟩ := hk
              refine z_fix (pc2 := 75) (st2 := [.int ((jpl ((x &&& (-x)) - 1))), .int (iI (((i : Int) * 64)))]) (ws' := [(h, .inr (2, [.ref a1, .ref a2, .ref a3, .int (iI ((e : Int))), .int (iI ((k : Int)))])), cL G a1 24 (zrw b), cI G a2 37 W, cI G a3 5 S]) [0, 1, 2, 3] rfl rfl rfl (by decide) ?_
              refine z_top (y := iI (i0 : Int)) (hi3) ?_
              refine z_iadd (pc := 75) C dX2_nextFall_75 ?_
              have ht76 : (((i : Int) * 64) + (i0 : Int)) = (((znf b e t) : Nat) : Int) := by
                have hb1 := hx i0 hi0
                rw [hi1] at hb1
                have hb2 : zfall b (64 * i + i0) = true ∧ u ≤ 64 * i + i0 := by simpa using hb1.symm
                have hlte : 64 * i + i0 < e := by
                  apply Nat.lt_of_not_le
                  intro q
                  have hb3 := hb2.1
                  unfold zfall at hb3
                  rw [hb _ q] at hb3
                  exact Bool.false_ne_true hb3
                have hsk := znf_skip (b := b) (e := e) (64 * i + i0 - u) u (fun j h1 h2 _ => by
                  have hz0 := hx (j - 64 * i) (by omega)
                  rw [hi2 _ (by omega), show 64 * i + (j - 64 * i) = j by omega, decide_eq_true h1, Bool.and_true] at hz0
                  exact hz0.symm)
                rw [← hq, hsk, show u + (64 * i + i0 - u) = 64 * i + i0 by omega, znf_fall hlte hb2.1]
                omega
              refine z_topi (y := (((znf b e t) : Nat) : Int)) (ht76) ?_
              exact z_iret (pc := 76) C R0 dX2_nextFall_76 (⟨rfl, rfl⟩)
        refine z_iload (pc := 29) C dX2_nextFall_29 5 rfl ?_
        refine z_iload_n (pc := 31) C dX2_nextFall_31 4 rfl ?_
        refine z_icmp_ne (tgt := 48) (pc := 32) C dX2_nextFall_32 (by decide) ⟨by omega, by omega⟩ ⟨by omega, by omega⟩ (fun c32 => ?_) (fun c32 => ?_)
        · refine z_lv (lv' := [(0, .ref h), (1, .int (iI ((t : Int)))), (2, .int (iI ((t : Int)))), (3, .int (iI (((t : Int) / 64)))), (4, .int (iI ((i : Int)))), (5, .long ((zrw (zfall b) i)))]) [1, 2, 3, 4, 5, 0] rfl ?_
          exact J48 _ (fun k hk => by rw [ib_rw _ _ hk, decide_eq_true (show u ≤ 64 * i + k by omega), Bool.and_true])
        · refine z_lload (pc := 35) C dX2_nextFall_35 0 rfl ?_
          refine z_ldc2 (v := -1) (pc := 37) C dX2_nextFall_37 (by decide +kernel) ?_
          refine z_iload_n (pc := 40) C dX2_nextFall_40 3 rfl ?_
          refine z_bipush (pc := 41) C dX2_nextFall_41 (by decide +kernel) ?_
          refine z_irem (pc := 43) C dX2_nextFall_43 ⟨by omega, by omega⟩ (by decide) ?_
          refine z_lshl (pc := 44) C (t % 64) (by omega) ⟨by omega, by omega⟩ dX2_nextFall_44 ?_
          refine z_land (pc := 45) C dX2_nextFall_45 ?_
          refine z_lstore (lv' := [(5, .long (((zrw (zfall b) i) &&& (zsl (-1) (t % 64))))), (0, .ref h), (1, .int (iI ((t : Int)))), (2, .int (iI ((t : Int)))), (3, .int (iI (((t : Int) / 64)))), (4, .int (iI ((i : Int))))]) (pc := 46) C dX2_nextFall_46 (by decide) rfl ?_
          refine z_lv (lv' := [(0, .ref h), (1, .int (iI ((t : Int)))), (2, .int (iI ((t : Int)))), (3, .int (iI (((t : Int) / 64)))), (4, .int (iI ((i : Int)))), (5, .long (((zrw (zfall b) i) &&& (zsl (-1) (t % 64)))))]) [1, 2, 3, 4, 5, 0] rfl ?_
          exact J48 _ (fun k hk => by
            rw [ib_and, ib_rw _ _ hk, ib_sl _ hk, ib_m1 _ (by omega), Bool.and_true]
            by_cases q : k < t % 64
            · rw [decide_eq_true q, decide_eq_false (show ¬ u ≤ 64 * i + k by omega)]; rfl
            · rw [decide_eq_false q, decide_eq_true (show u ≤ 64 * i + k by omega)]; rfl)
  refine z_lv (lv' := [(0, .ref h), (1, .int (iI z)), (2, .int (iI ((t : Int)))), (3, .int (iI (((t : Int) / 64)))), (4, .int (iI (((t : Int) / 64))))]) [3, 4, 2, 1, 0] rfl ?_
  subst hz
  exact L14 1601 (t / 64) t (by omega) (by omega) (Or.inl ⟨rfl, rfl⟩) rfl

theorem ffX2_flip_39 : zFF wsX2_flip RX2 39 RX2 TX2 5 3 := ⟨by decide +kernel, by decide, by decide +kernel⟩
theorem ffX2_flip_11 : zFF wsX2_flip RX2 11 RX2 TX2 5 0 := ⟨by decide +kernel, by decide, by decide +kernel⟩
theorem nyX2_levelAt : yX2_levelAt.cls ≠ "java/lang/invoke/MethodHandle" ∧ yX2_levelAt.cls ≠ "java/lang/invoke/VarHandle" ∧ (parseMethodDescriptor yX2_levelAt.desc).map (fun d => d.parameters.length) = some 1 := by decide +kernel
set_option maxHeartbeats 4000000 in
set_option maxRecDepth 100000 in
theorem k_X2_flip (l : Launch) (G : ZG) (h a1 a2 a3 : Nat) (b : Nat → Bool) (W S : Nat → Int) (e k : Nat) (hI : zI b W S e k) (z1 z2 : Int) (f m : Nat) (hf : z1 = (f : Int)) (hm : z2 = (m : Int)) (hfm : f + m ≤ e) : Kt l G yX2_flip wsX2_flip { frames := 1, cells := 0, slots := 0, locals := 24 } 0 0 False [.ref h, .int (iI z1), .int (iI z2)] [(h, .inr (2, [.ref a1, .ref a2, .ref a3, .int (iI ((e : Int))), .int (iI ((k : Int)))])), cL G a1 24 (zrw b), cI G a2 37 W, cI G a3 5 S] (fun v9 w9 => v9 = some (.int (iI ((zct (fun j => zB (!b j)) f m)))) ∧ w9 = [(h, .inr (2, [.ref a1, .ref a2, .ref a3, .int (iI ((e : Int))), .int (iI ((k : Int)))])), cL G a1 24 (zrw (zfl b f (f + m))), cI G a2 37 W, cI G a3 5 S]) := by
  refine Kt.of (cc := cX2_flip) (nL := 5) (ret := (some .int)) (own := RX2) rfl (by decide +kernel) rfl (Nat.le_of_ble_eq_true rfl) ?_
  intro X Y C R0 hin
  show Z l X G Y 5 0 0 0 [(0, .ref h), (1, .int (iI z1)), (2, .int (iI z2))] [] [(h, .inr (2, [.ref a1, .ref a2, .ref a3, .int (iI ((e : Int))), .int (iI ((k : Int)))])), cL G a1 24 (zrw b), cI G a2 37 W, cI G a3 5 S]
  obtain ⟨he, hk, hb, s0, s1, s2, s3, s4, hw⟩ := id hI
  refine z_iconst (pc := 0) C dX2_flip_0 ?_
  refine z_istore_n (lv' := [(3, .int (iI 0)), (0, .ref h), (1, .int (iI z1)), (2, .int (iI z2))]) (pc := 1) C dX2_flip_1 (by decide) rfl ?_
  refine z_iload_n (pc := 2) C dX2_flip_2 2 rfl ?_
  refine z_iconst (pc := 3) C dX2_flip_3 ?_
  refine z_max (pc := 4) C dX2_flip_4 (by decide +kernel) (by decide +kernel) (by decide +kernel) (by decide +kernel) (by decide) (Nat.le_of_ble_eq_true rfl) (by decide) (by decide) ⟨by omega, by omega⟩ (by decide) (((f : Nat) : Int)) ⟨fun _ => by omega, fun _ => by omega⟩ ?_
  refine z_istore (lv' := [(4, .int (iI ((f : Int)))), (3, .int (iI 0)), (0, .ref h), (1, .int (iI z1)), (2, .int (iI z2))]) (pc := 7) C dX2_flip_7 (by decide) rfl ?_
  have L9 : ∀ (n : Nat) (i : Nat), m < i + n → i ≤ m → Z l X G Y 5 0 0 9 [(0, .ref h), (1, .int (iI ((f : Int)))), (2, .int (iI ((m : Int)))), (3, .int (iI ((zct (fun j => zB (!b j)) f i)))), (4, .int (iI ((((f + i) : Nat) : Int))))] [] [(h, .inr (2, [.ref a1, .ref a2, .ref a3, .int (iI ((e : Int))), .int (iI ((k : Int)))])), cL G a1 24 (zrw (zfl b f (f + i))), cI G a2 37 W, cI G a3 5 S] := by
    intro n
    induction n with
    | zero => intro i hn hi; exact absurd hn (by omega)
    | succ n ih =>
      intro i hn hi
      refine z_iload (pc := 9) C dX2_flip_9 4 rfl ?_
      refine z_iload_n (pc := 11) C dX2_flip_11 1 rfl ?_
      refine z_iload_n (pc := 12) C dX2_flip_12 2 rfl ?_
      refine z_iadd (pc := 13) C dX2_flip_13 ?_
      refine z_icmp_ge (tgt := 61) (pc := 14) C dX2_flip_14 (by decide) ⟨by omega, by omega⟩ ⟨by omega, by omega⟩ (fun c14 => ?_) (fun c14 => ?_)
      · obtain rfl : i = m := by omega
        refine z_iload_n (pc := 61) C dX2_flip_61 3 rfl ?_
        exact z_iret (pc := 62) C R0 dX2_flip_62 (⟨rfl, rfl⟩)
      · refine z_iload (pc := 17) C dX2_flip_17 4 rfl ?_
        refine z_aload_n (pc := 19) C dX2_flip_19 0 rfl ?_
        refine z_get (pc := 20) C dX2_flip_20 zCl2 ffX2_flip_39 0 rfl rfl ?_
        refine z_icmp_ge (tgt := 61) (pc := 23) C dX2_flip_23 (by decide) ⟨by omega, by omega⟩ ⟨by omega, by omega⟩ (fun c23 => ?_) (fun c23 => ?_)
        · exfalso; omega
        · refine z_aload_n (pc := 26) C dX2_flip_26 0 rfl ?_
          refine z_get (pc := 27) C dX2_flip_27 zCl2 ffX2_flip_11 0 rfl rfl ?_
          refine z_iload (pc := 30) C dX2_flip_30 4 rfl ?_
          refine z_bipush (pc := 32) C dX2_flip_32 (by decide +kernel) ?_
          refine z_idiv (pc := 34) C dX2_flip_34 ⟨by omega, by omega⟩ (by decide) ?_
          refine z_dup2 (pc := 35) C dX2_flip_35 rfl rfl ?_
          refine z_lald (pc := 36) C dX2_flip_36 1 rfl (((f + i) / 64)) (by omega) (by omega) (by decide) ?_
          refine z_lconst (pc := 37) C 1 dX2_flip_37 (by decide +kernel) ?_
          refine z_iload (pc := 38) C dX2_flip_38 4 rfl ?_
          refine z_bipush (pc := 40) C dX2_flip_40 (by decide +kernel) ?_
          refine z_irem (pc := 42) C dX2_flip_42 ⟨by omega, by omega⟩ (by decide) ?_
          refine z_lshl (pc := 43) C ((f + i) % 64) (by omega) ⟨by omega, by omega⟩ dX2_flip_43 ?_
          refine z_lxor (pc := 44) C dX2_flip_44 ?_
          refine z_last (ws' := [(h, .inr (2, [.ref a1, .ref a2, .ref a3, .int (iI ((e : Int))), .int (iI ((k : Int)))])), cL G a1 24 (vp_updL (zrw (zfl b f (f + i))) ((f + i) / 64) (((zrw (zfl b f (f + i))) ((f + i) / 64)) ^^^ (zsl 1 ((f + i) % 64)))), cI G a2 37 W, cI G a3 5 S]) (pc := 45) C dX2_flip_45 1 rfl (((f + i) / 64)) (by omega) (by omega) (by decide) rfl ?_
          refine z_rowL (F' := zrw (zfl b f (f + i + 1))) (ws' := [(h, .inr (2, [.ref a1, .ref a2, .ref a3, .int (iI (e : Int)), .int (iI (k : Int))])), cL G a1 24 (zrw (zfl b f (f + i + 1))), cI G a2 37 W, cI G a3 5 S]) 1 rfl (fun j _ => by rw [zrw_flip, zfl_s b (by omega)]) rfl ?_
          have hI2 := zI_fl (f := f) (t := f + i + 1) hI (by omega)
          refine z_iload_n (pc := 46) C dX2_flip_46 3 rfl ?_
          refine z_aload_n (pc := 47) C dX2_flip_47 0 rfl ?_
          refine z_iload (pc := 48) C dX2_flip_48 4 rfl ?_
          refine z_callV (As := [.int (iI ((((f + i) : Nat) : Int)))]) (rest := [.int (iI ((zct (fun j => zB (!b j)) f i)))]) (wc := [(h, .inr (2, [.ref a1, .ref a2, .ref a3, .int (iI ((e : Int))), .int (iI ((k : Int)))])), cL G a1 24 (zrw (zfl b f (f + i + 1))), cI G a2 37 W, cI G a3 5 S]) (wr := []) (fs := [.ref a1, .ref a2, .ref a3, .int (iI ((e : Int))), .int (iI ((k : Int)))]) (pc := 50) C dX2_flip_50 (k_X2_levelAt l G h a1 a2 a3 (zfl b f (f + i + 1)) W S e k hI2 ((f + i : Nat) : Int) ⟨by omega, by omega⟩) gX2_flip_X2_levelAt ⟨⟨_, rfl⟩, ⟨rfl, rfl⟩, nyX2_levelAt, ⟨Nat.le_of_ble_eq_true rfl, Nat.le_of_ble_eq_true rfl⟩⟩ rfl zCl2 rfl (fun h => h) rfl (Nat.le_of_ble_eq_true rfl) [0, 1, 2, 3] [] rfl rfl (by decide) (by decide) (by decide) ⟨Nat.le_of_ble_eq_true rfl, Nat.le_of_ble_eq_true rfl⟩ (fun v w hk => ?_)
          obtain ⟨rfl, rfl⟩ := hk
          refine z_fix (pc2 := 53) (st2 := [.int (iI ((zlv (zfl b f (f + i + 1)) ((f + i : Nat) : Int)))), .int (iI ((zct (fun j => zB (!b j)) f i)))]) (ws' := [(h, .inr (2, [.ref a1, .ref a2, .ref a3, .int (iI ((e : Int))), .int (iI ((k : Int)))])), cL G a1 24 (zrw (zfl b f (f + i + 1))), cI G a2 37 W, cI G a3 5 S]) [0, 1, 2, 3] rfl rfl rfl (by decide) ?_
          refine z_iadd (pc := 53) C dX2_flip_53 ?_
          refine z_topi (y := (zct (fun j => zB (!b j)) f (i + 1))) (by rw [zlv_nat]; show _ + zB (zfl b f (f + i + 1) (f + i)) = zct (fun j => zB (!b j)) f i + zB (!b (f + i)); rw [show zfl b f (f + i + 1) (f + i) = !b (f + i) from if_pos ⟨by omega, by omega⟩]) ?_
          refine z_istore_n (lv' := [(3, .int (iI ((zct (fun j => zB (!b j)) f (i + 1))))), (0, .ref h), (1, .int (iI ((f : Int)))), (2, .int (iI ((m : Int)))), (4, .int (iI ((((f + i) : Nat) : Int))))]) (pc := 54) C dX2_flip_54 (by decide) rfl ?_
          refine z_iinc (lv' := [(4, .int (iI (((((f + i) : Nat) : Int) + 1)))), (3, .int (iI ((zct (fun j => zB (!b j)) f (i + 1))))), (0, .ref h), (1, .int (iI ((f : Int)))), (2, .int (iI ((m : Int))))]) (pc := 55) C dX2_flip_55 4 rfl (by decide) rfl ?_
          refine z_goto (tgt := 9) (pc := 58) C dX2_flip_58 (by decide) ?_
          refine z_lv (lv' := [(0, .ref h), (1, .int (iI ((f : Int)))), (2, .int (iI ((m : Int)))), (3, .int (iI ((zct (fun j => zB (!b j)) f (i + 1))))), (4, .int (iI (((((f + i) : Nat) : Int) + 1))))]) [2, 3, 4, 1, 0] rfl ?_
          exact ih (i + 1) (by omega) (by omega)
  refine z_lv (lv' := [(0, .ref h), (1, .int (iI z1)), (2, .int (iI z2)), (3, .int (iI 0)), (4, .int (iI ((f : Int))))]) [2, 3, 4, 1, 0] rfl ?_
  subst hf hm
  refine z_ws (ws' := [(h, .inr (2, [.ref a1, .ref a2, .ref a3, .int (iI (e : Int)), .int (iI (k : Int))])), cL G a1 24 (zrw (zfl b f (f + 0))), cI G a2 37 W, cI G a3 5 S]) [0, 1, 2, 3] (by rw [Nat.add_zero, zfl_0]; rfl) (by decide) ?_
  exact L9 (m + 1) 0 (by omega) (by omega)
