/-! THE TEXT, walked: the program sent -/
theorem ffX3_sendTo_22 : zFF wsX3_sendTo RX3 22 RX3 TX3 4 3 := ⟨by decide +kernel, by decide, by decide +kernel⟩
theorem nyX3_sendItem : yX3_sendItem.cls ≠ "java/lang/invoke/MethodHandle" ∧ yX3_sendItem.cls ≠ "java/lang/invoke/VarHandle" ∧ (parseMethodDescriptor yX3_sendItem.desc).map (fun d => d.parameters.length) = some 2 := by decide +kernel
theorem nyX3_widthOfItem : yX3_widthOfItem.cls ≠ "java/lang/invoke/MethodHandle" ∧ yX3_widthOfItem.cls ≠ "java/lang/invoke/VarHandle" ∧ (parseMethodDescriptor yX3_widthOfItem.desc).map (fun d => d.parameters.length) = some 1 := by decide +kernel
theorem nyX3_beginRepeat : yX3_beginRepeat.cls ≠ "java/lang/invoke/MethodHandle" ∧ yX3_beginRepeat.cls ≠ "java/lang/invoke/VarHandle" ∧ (parseMethodDescriptor yX3_beginRepeat.desc).map (fun d => d.parameters.length) = some 3 := by decide +kernel
theorem nyX3_isRepeatDue : yX3_isRepeatDue.cls ≠ "java/lang/invoke/MethodHandle" ∧ yX3_isRepeatDue.cls ≠ "java/lang/invoke/VarHandle" ∧ (parseMethodDescriptor yX3_isRepeatDue.desc).map (fun d => d.parameters.length) = some 1 := by decide +kernel
theorem ffX3_sendTo_15 : zFF wsX3_sendTo RX3 15 RX3 TX3 4 1 := ⟨by decide +kernel, by decide, by decide +kernel⟩
set_option maxHeartbeats 4000000 in
set_option maxRecDepth 100000 in
theorem k_X3_sendTo (l : Launch) (G : ZG) (h a1 a2 a3 : Nat) (b : Nat → Bool) (W S : Nat → Int) (e k : Nat) (hI : zI b W S e k) (x t1 t2 t3 : Nat) (T F R : Nat → Int) (n : Nat) (hT : ∀ i, 0 ≤ T i ∧ T i < 65536) (hn60 : n ≤ 60) (hf : zfree T n) : Kt l G yX3_sendTo wsX3_sendTo { frames := 5, cells := 0, slots := 0, locals := 114 } 0 0 False [.ref x, .ref h] [(x, .inr (3, [.ref t1, .ref t2, .ref t3, .int (iI ((n : Int)))])), cC G t1 60 T, cI G t2 30 F, cI G t3 30 R, (h, .inr (2, [.ref a1, .ref a2, .ref a3, .int (iI ((e : Int))), .int (iI ((k : Int)))])), cL G a1 24 (zrw b), cI G a2 37 W, cI G a3 5 S] (fun v9 w9 => ∃ (r : Int) (b9 : Nat → Bool) (W9 : Nat → Int) (e9 : Nat) (k9 : Nat) (F9 : Nat → Int) (R9 : Nat → Int), ((r = 1 ∧ zxr S T n 0 0 F R (b, W, e, k) (some (b9, W9, e9, k9))) ∨ (r = 0 ∧ zxr S T n 0 0 F R (b, W, e, k) none)) ∧ (zI b9 W9 S e9 k9) ∧ v9 = some (.int (iI r)) ∧ w9 = [(x, .inr (3, [.ref t1, .ref t2, .ref t3, .int (iI ((n : Int)))])), cC G t1 60 T, cI G t2 30 F9, cI G t3 30 R9, (h, .inr (2, [.ref a1, .ref a2, .ref a3, .int (iI ((e9 : Int))), .int (iI ((k9 : Int)))])), cL G a1 24 (zrw b9), cI G a2 37 W9, cI G a3 5 S]) := by
  refine Kt.of (cc := cX3_sendTo) (nL := 6) (ret := (some .boolean)) (own := RX3) rfl (by decide +kernel) rfl (Nat.le_of_ble_eq_true rfl) ?_
  intro X Y C R0 hin
  show Z l X G Y 6 0 0 0 [(0, .ref x), (1, .ref h)] [] [(x, .inr (3, [.ref t1, .ref t2, .ref t3, .int (iI ((n : Int)))])), cC G t1 60 T, cI G t2 30 F, cI G t3 30 R, (h, .inr (2, [.ref a1, .ref a2, .ref a3, .int (iI ((e : Int))), .int (iI ((k : Int)))])), cL G a1 24 (zrw b), cI G a2 37 W, cI G a3 5 S]
  obtain ⟨he, hk, hb, s0, s1, s2, s3, s4, hw⟩ := id hI
  have hz0 : zme T 0 e ≤ 600060 := by unfold zme; rw [if_pos (show zpP T 0 = 0 from rfl)]; omega
  refine z_iconst (pc := 0) C dX3_sendTo_0 ?_
  refine z_istore_n (lv' := [(2, .int (iI 0)), (0, .ref x), (1, .ref h)]) (pc := 1) C dX3_sendTo_1 (by decide) rfl ?_
  refine z_iconst (pc := 2) C dX3_sendTo_2 ?_
  refine z_istore_n (lv' := [(3, .int (iI 0)), (2, .int (iI 0)), (0, .ref x), (1, .ref h)]) (pc := 3) C dX3_sendTo_3 (by decide) rfl ?_
  refine z_iconst (pc := 4) C dX3_sendTo_4 ?_
  refine z_istore (lv' := [(4, .int (iI 0)), (3, .int (iI 0)), (2, .int (iI 0)), (0, .ref x), (1, .ref h)]) (pc := 5) C dX3_sendTo_5 (by decide) rfl ?_
  have L7 : ∀ (m : Nat) (i d sp : Nat) (F1 R1 : Nat → Int) (b1 : Nat → Bool) (W1 : Nat → Int) (e1 k1 : Nat), zme T i e1 < m → sp + zme T i e1 ≤ 650000 → zat T n i → zpD T i = (d : Int) → zsk T n d F1 R1 → zI b1 W1 S e1 k1 → (∀ r, zxr S T n i d F1 R1 (b1, W1, e1, k1) r → zxr S T n 0 0 F R (b, W, e, k) r) → Z l X G Y 6 0 0 7 [(0, .ref x), (1, .ref h), (2, .int (iI ((d : Int)))), (3, .int (iI ((i : Int)))), (4, .int (iI ((sp : Int))))] [] [(x, .inr (3, [.ref t1, .ref t2, .ref t3, .int (iI ((n : Int)))])), cC G t1 60 T, cI G t2 30 F1, cI G t3 30 R1, (h, .inr (2, [.ref a1, .ref a2, .ref a3, .int (iI ((e1 : Int))), .int (iI ((k1 : Int)))])), cL G a1 24 (zrw b1), cI G a2 37 W1, cI G a3 5 S] := by
    intro m
    induction m with
    | zero => intro i d sp F1 R1 b1 W1 e1 k1 hn hsp hat hd hsk hI1 hq; exact absurd hn (by omega)
    | succ m ih =>
      intro i d sp F1 R1 b1 W1 e1 k1 hn hsp hat hd hsk hI1 hq
      refine z_iload (pc := 7) C dX3_sendTo_7 4 rfl ?_
      refine z_ldc (n := 1000000) (pc := 9) C dX3_sendTo_9 (by decide +kernel) ?_
      have hin := hat.1
      refine z_icmp_ge (tgt := 142) (pc := 11) C dX3_sendTo_11 (by decide) ⟨by omega, by omega⟩ (by decide) (fun c11 => ?_) (fun c11 => ?_)
      · exfalso; omega
      · refine z_iload_n (pc := 14) C dX3_sendTo_14 3 rfl ?_
        refine z_aload_n (pc := 15) C dX3_sendTo_15 0 rfl ?_
        refine z_get (pc := 16) C dX3_sendTo_16 zCl3 ffX3_sendTo_22 0 rfl rfl ?_
        refine z_icmp_ge (tgt := 142) (pc := 19) C dX3_sendTo_19 (by decide) ⟨by omega, by omega⟩ ⟨by omega, by omega⟩ (fun c19 => ?_) (fun c19 => ?_)
        · refine z_iload_n (pc := 142) C dX3_sendTo_142 3 rfl ?_
          refine z_aload_n (pc := 143) C dX3_sendTo_143 0 rfl ?_
          refine z_get (pc := 144) C dX3_sendTo_144 zCl3 ffX3_sendTo_22 0 rfl rfl ?_
          refine z_icmp_lt (tgt := 154) (pc := 147) C dX3_sendTo_147 (by decide) ⟨by omega, by omega⟩ ⟨by omega, by omega⟩ (fun c147 => ?_) (fun c147 => ?_)
          · exfalso; omega
          · refine z_iconst (pc := 150) C dX3_sendTo_150 ?_
            refine z_goto (tgt := 155) (pc := 151) C dX3_sendTo_151 (by decide) ?_
            exact z_zret (pc := 155) C R0 (by decide) dX3_sendTo_155 (⟨1, _, _, _, _, _, _, Or.inl ⟨rfl, hq _ (zxr_done (by omega))⟩, hI1, rfl, rfl⟩)
        · have hlt : i < n := by omega
          have hdp := zdep hf.1 i (by omega)
          have hTi := hT i
          refine z_aload_n (pc := 22) C dX3_sendTo_22 0 rfl ?_
          refine z_iload_n (pc := 23) C dX3_sendTo_23 3 rfl ?_
          refine z_callV (As := [.int (iI ((i : Int)))]) (rest := []) (wc := [(x, .inr (3, [.ref t1, .ref t2, .ref t3, .int (iI ((n : Int)))])), cC G t1 60 T, cI G t2 30 F1, cI G t3 30 R1]) (wr := [(h, .inr (2, [.ref a1, .ref a2, .ref a3, .int (iI ((e1 : Int))), .int (iI ((k1 : Int)))])), cL G a1 24 (zrw b1), cI G a2 37 W1, cI G a3 5 S]) (fs := [.ref t1, .ref t2, .ref t3, .int (iI ((n : Int)))]) (pc := 24) C dX3_sendTo_24 (k_X3_characterAt l G x t1 t2 t3 T F1 R1 n hT hn60 (i : Int) ⟨by omega, by omega⟩) gX3_sendTo_X3_characterAt ⟨⟨_, rfl⟩, ⟨rfl, rfl⟩, nyX3_characterAt, ⟨Nat.le_of_ble_eq_true rfl, Nat.le_of_ble_eq_true rfl⟩⟩ rfl zCl3 rfl (fun h => h) rfl (Nat.le_of_ble_eq_true rfl) [0, 1, 2, 3] [4, 5, 6, 7] rfl rfl (by decide) (by decide) (by decide) ⟨Nat.le_of_ble_eq_true rfl, Nat.le_of_ble_eq_true rfl⟩ (fun v w hk => ?_)
          obtain ⟨rfl, rfl⟩ := hk
          refine z_fix (pc2 := 27) (st2 := [.int (iI ((zch T n (i : Int))))]) (ws' := [(x, .inr (3, [.ref t1, .ref t2, .ref t3, .int (iI ((n : Int)))])), cC G t1 60 T, cI G t2 30 F1, cI G t3 30 R1, (h, .inr (2, [.ref a1, .ref a2, .ref a3, .int (iI ((e1 : Int))), .int (iI ((k1 : Int)))])), cL G a1 24 (zrw b1), cI G a2 37 W1, cI G a3 5 S]) [4, 5, 6, 7, 0, 1, 2, 3] rfl rfl rfl (by decide) ?_
          refine z_topi (y := (T i)) (zch_at hlt) ?_
          refine z_istore (lv' := [(5, .int (iI ((T i)))), (0, .ref x), (1, .ref h), (2, .int (iI ((d : Int)))), (3, .int (iI ((i : Int)))), (4, .int (iI ((sp : Int))))]) (pc := 27) C dX3_sendTo_27 (by decide) rfl ?_
          refine z_iload (pc := 29) C dX3_sendTo_29 0 rfl ?_
          refine z_bipush (pc := 31) C dX3_sendTo_31 (by decide +kernel) ?_
          refine z_icmp_ne (tgt := 42) (pc := 33) C dX3_sendTo_33 (by decide) ⟨by omega, by omega⟩ (by decide) (fun c33 => ?_) (fun c33 => ?_)
          · refine z_iload (pc := 42) C dX3_sendTo_42 0 rfl ?_
            refine z_bipush (pc := 44) C dX3_sendTo_44 (by decide +kernel) ?_
            refine z_icmp_ne (tgt := 80) (pc := 46) C dX3_sendTo_46 (by decide) ⟨by omega, by omega⟩ (by decide) (fun c46 => ?_) (fun c46 => ?_)
            · refine z_aload_n (pc := 80) C dX3_sendTo_80 1 rfl ?_
              refine z_iload_n (pc := 81) C dX3_sendTo_81 4 rfl ?_
              refine z_iconst (pc := 82) C dX3_sendTo_82 ?_
              refine z_iadd (pc := 83) C dX3_sendTo_83 ?_
              refine z_callV (As := [.int (iI (((i : Int) + 1)))]) (rest := []) (wc := [(x, .inr (3, [.ref t1, .ref t2, .ref t3, .int (iI ((n : Int)))])), cC G t1 60 T, cI G t2 30 F1, cI G t3 30 R1]) (wr := [(h, .inr (2, [.ref a1, .ref a2, .ref a3, .int (iI ((e1 : Int))), .int (iI ((k1 : Int)))])), cL G a1 24 (zrw b1), cI G a2 37 W1, cI G a3 5 S]) (fs := [.ref t1, .ref t2, .ref t3, .int (iI ((n : Int)))]) (pc := 84) C dX3_sendTo_84 (k_X3_characterAt l G x t1 t2 t3 T F1 R1 n hT hn60 ((i : Int) + 1) ⟨by omega, by omega⟩) gX3_sendTo_X3_characterAt ⟨⟨_, rfl⟩, ⟨rfl, rfl⟩, nyX3_characterAt, ⟨Nat.le_of_ble_eq_true rfl, Nat.le_of_ble_eq_true rfl⟩⟩ rfl zCl3 rfl (fun h => h) rfl (Nat.le_of_ble_eq_true rfl) [0, 1, 2, 3] [4, 5, 6, 7] rfl rfl (by decide) (by decide) (by decide) ⟨Nat.le_of_ble_eq_true rfl, Nat.le_of_ble_eq_true rfl⟩ (fun v w hk => ?_)
              obtain ⟨rfl, rfl⟩ := hk
              refine z_fix (pc2 := 87) (st2 := [.int (iI ((zch T n ((i : Int) + 1))))]) (ws' := [(x, .inr (3, [.ref t1, .ref t2, .ref t3, .int (iI ((n : Int)))])), cC G t1 60 T, cI G t2 30 F1, cI G t3 30 R1, (h, .inr (2, [.ref a1, .ref a2, .ref a3, .int (iI ((e1 : Int))), .int (iI ((k1 : Int)))])), cL G a1 24 (zrw b1), cI G a2 37 W1, cI G a3 5 S]) [4, 5, 6, 7, 0, 1, 2, 3] rfl rfl rfl (by decide) ?_
              have hcb := zch_b hT n ((i : Int) + 1)
              refine z_bipush (pc := 87) C dX3_sendTo_87 (by decide +kernel) ?_
              refine z_icmp_ne (tgt := 117) (pc := 89) C dX3_sendTo_89 (by decide) ⟨by omega, by omega⟩ (by decide) (fun c89 => ?_) (fun c89 => ?_)
              · obtain ⟨g1, g2, g3, g4, g5, g6, g7, g8⟩ := ztok_i hf hlt hat c33 c46 c89
                cases hm : zitm S T n i (b1, W1, e1, k1) with
                | none =>
                  refine z_aload_n (pc := 117) C dX3_sendTo_117 1 rfl ?_
                  refine z_aload_n (pc := 118) C dX3_sendTo_118 2 rfl ?_
                  refine z_iload_n (pc := 119) C dX3_sendTo_119 4 rfl ?_
                  refine z_callV (As := [.ref h, .int (iI ((i : Int)))]) (rest := []) (wc := [(x, .inr (3, [.ref t1, .ref t2, .ref t3, .int (iI ((n : Int)))])), cC G t1 60 T, cI G t2 30 F1, cI G t3 30 R1, (h, .inr (2, [.ref a1, .ref a2, .ref a3, .int (iI ((e1 : Int))), .int (iI ((k1 : Int)))])), cL G a1 24 (zrw b1), cI G a2 37 W1, cI G a3 5 S]) (wr := []) (fs := [.ref t1, .ref t2, .ref t3, .int (iI ((n : Int)))]) (pc := 120) C dX3_sendTo_120 (k_X3_sendItem_f l G h a1 a2 a3 b1 W1 S e1 k1 hI1 x t1 t2 t3 T F1 R1 n hT hn60 i g2 g3 g4 hm) gX3_sendTo_X3_sendItem ⟨⟨_, rfl⟩, ⟨rfl, rfl⟩, nyX3_sendItem, ⟨Nat.le_of_ble_eq_true rfl, Nat.le_of_ble_eq_true rfl⟩⟩ rfl zCl3 rfl (fun h => h) rfl (Nat.le_of_ble_eq_true rfl) [0, 1, 2, 3, 4, 5, 6, 7] [] rfl rfl (by decide) (by decide) (by decide) ⟨Nat.le_of_ble_eq_true rfl, Nat.le_of_ble_eq_true rfl⟩ (fun v w hk => ?_)
                  obtain ⟨rfl, rfl⟩ := hk
                  refine z_fix (pc2 := 123) (st2 := [.int (iI 0)]) (ws' := [(x, .inr (3, [.ref t1, .ref t2, .ref t3, .int (iI ((n : Int)))])), cC G t1 60 T, cI G t2 30 F1, cI G t3 30 R1, (h, .inr (2, [.ref a1, .ref a2, .ref a3, .int (iI ((e1 : Int))), .int (iI ((k1 : Int)))])), cL G a1 24 (zrw b1), cI G a2 37 W1, cI G a3 5 S]) [0, 1, 2, 3, 4, 5, 6, 7] rfl rfl rfl (by decide) ?_
                  refine z_if_ne (tgt := 128) (pc := 123) C dX3_sendTo_123 (by decide) (by decide) (fun c123 => ?_) (fun c123 => ?_)
                  · exfalso; omega
                  · refine z_iconst (pc := 126) C dX3_sendTo_126 ?_
                    exact z_zret (pc := 127) C R0 (by decide) dX3_sendTo_127 (⟨0, _, _, _, _, _, _, Or.inr ⟨rfl, hq _ (zxr_full hlt c33 c46 c89 hm)⟩, hI1, rfl, rfl⟩)
                | some s =>
                  obtain ⟨hIs, hes⟩ := zitm_I hI1 g3 g4 hm
                  refine z_aload_n (pc := 117) C dX3_sendTo_117 1 rfl ?_
                  refine z_aload_n (pc := 118) C dX3_sendTo_118 2 rfl ?_
                  refine z_iload_n (pc := 119) C dX3_sendTo_119 4 rfl ?_
                  refine z_callV (As := [.ref h, .int (iI ((i : Int)))]) (rest := []) (wc := [(x, .inr (3, [.ref t1, .ref t2, .ref t3, .int (iI ((n : Int)))])), cC G t1 60 T, cI G t2 30 F1, cI G t3 30 R1, (h, .inr (2, [.ref a1, .ref a2, .ref a3, .int (iI ((e1 : Int))), .int (iI ((k1 : Int)))])), cL G a1 24 (zrw b1), cI G a2 37 W1, cI G a3 5 S]) (wr := []) (fs := [.ref t1, .ref t2, .ref t3, .int (iI ((n : Int)))]) (pc := 120) C dX3_sendTo_120 (k_X3_sendItem_t l G h a1 a2 a3 b1 W1 S e1 k1 hI1 x t1 t2 t3 T F1 R1 n hT hn60 i s g2 g3 g4 hm) gX3_sendTo_X3_sendItem ⟨⟨_, rfl⟩, ⟨rfl, rfl⟩, nyX3_sendItem, ⟨Nat.le_of_ble_eq_true rfl, Nat.le_of_ble_eq_true rfl⟩⟩ rfl zCl3 rfl (fun h => h) rfl (Nat.le_of_ble_eq_true rfl) [0, 1, 2, 3, 4, 5, 6, 7] [] rfl rfl (by decide) (by decide) (by decide) ⟨Nat.le_of_ble_eq_true rfl, Nat.le_of_ble_eq_true rfl⟩ (fun v w hk => ?_)
                  obtain ⟨rfl, rfl⟩ := hk
                  refine z_fix (pc2 := 123) (st2 := [.int (iI 1)]) (ws' := [(x, .inr (3, [.ref t1, .ref t2, .ref t3, .int (iI ((n : Int)))])), cC G t1 60 T, cI G t2 30 F1, cI G t3 30 R1, (h, .inr (2, [.ref a1, .ref a2, .ref a3, .int (iI (((s.2.2.1 : Nat) : Int))), .int (iI (((s.2.2.2 : Nat) : Int)))])), cL G a1 24 (zrw s.1), cI G a2 37 s.2.1, cI G a3 5 S]) [0, 1, 2, 3, 4, 5, 6, 7] rfl rfl rfl (by decide) ?_
                  refine z_if_ne (tgt := 128) (pc := 123) C dX3_sendTo_123 (by decide) (by decide) (fun c123 => ?_) (fun c123 => ?_)
                  · refine z_iload_n (pc := 128) C dX3_sendTo_128 4 rfl ?_
                    refine z_aload_n (pc := 129) C dX3_sendTo_129 1 rfl ?_
                    refine z_iload_n (pc := 130) C dX3_sendTo_130 4 rfl ?_
                    refine z_callV (As := [.int (iI ((i : Int)))]) (rest := [.int (iI ((i : Int)))]) (wc := [(x, .inr (3, [.ref t1, .ref t2, .ref t3, .int (iI ((n : Int)))])), cC G t1 60 T, cI G t2 30 F1, cI G t3 30 R1]) (wr := [(h, .inr (2, [.ref a1, .ref a2, .ref a3, .int (iI (((s.2.2.1 : Nat) : Int))), .int (iI (((s.2.2.2 : Nat) : Int)))])), cL G a1 24 (zrw s.1), cI G a2 37 s.2.1, cI G a3 5 S]) (fs := [.ref t1, .ref t2, .ref t3, .int (iI ((n : Int)))]) (pc := 131) C dX3_sendTo_131 (k_X3_widthOfItem l G x t1 t2 t3 T F1 R1 n hT hn60 i hlt) gX3_sendTo_X3_widthOfItem ⟨⟨_, rfl⟩, ⟨rfl, rfl⟩, nyX3_widthOfItem, ⟨Nat.le_of_ble_eq_true rfl, Nat.le_of_ble_eq_true rfl⟩⟩ rfl zCl3 rfl (fun h => h) rfl (Nat.le_of_ble_eq_true rfl) [0, 1, 2, 3] [4, 5, 6, 7] rfl rfl (by decide) (by decide) (by decide) ⟨Nat.le_of_ble_eq_true rfl, Nat.le_of_ble_eq_true rfl⟩ (fun v w hk => ?_)
                    obtain ⟨rfl, rfl⟩ := hk
                    refine z_fix (pc2 := 134) (st2 := [.int (iI ((((zwid T n i) : Nat) : Int))), .int (iI ((i : Int)))]) (ws' := [(x, .inr (3, [.ref t1, .ref t2, .ref t3, .int (iI ((n : Int)))])), cC G t1 60 T, cI G t2 30 F1, cI G t3 30 R1, (h, .inr (2, [.ref a1, .ref a2, .ref a3, .int (iI (((s.2.2.1 : Nat) : Int))), .int (iI (((s.2.2.2 : Nat) : Int)))])), cL G a1 24 (zrw s.1), cI G a2 37 s.2.1, cI G a3 5 S]) [4, 5, 6, 7, 0, 1, 2, 3] rfl rfl rfl (by decide) ?_
                    refine z_iadd (pc := 134) C dX3_sendTo_134 ?_
                    refine z_istore_n (lv' := [(3, .int (iI (((i : Int) + (((zwid T n i) : Nat) : Int))))), (5, .int (iI ((T i)))), (0, .ref x), (1, .ref h), (2, .int (iI ((d : Int)))), (4, .int (iI ((sp : Int))))]) (pc := 135) C dX3_sendTo_135 (by decide) rfl ?_
                    refine z_iinc (lv' := [(4, .int (iI (((sp : Int) + 1)))), (3, .int (iI (((i : Int) + (((zwid T n i) : Nat) : Int))))), (5, .int (iI ((T i)))), (0, .ref x), (1, .ref h), (2, .int (iI ((d : Int))))]) (pc := 136) C dX3_sendTo_136 5 rfl (by decide) rfl ?_
                    refine z_goto (tgt := 7) (pc := 139) C dX3_sendTo_139 (by decide) ?_
                    refine z_lv (lv' := [(0, .ref x), (1, .ref h), (2, .int (iI ((d : Int)))), (3, .int (iI (((i : Int) + (((zwid T n i) : Nat) : Int))))), (4, .int (iI (((sp : Int) + 1))))]) [3, 4, 5, 1, 0] rfl ?_
                    have hIe := hIs.1
                    have hzm := zme_item (T := T) (j := i + zwid T n i) g1 hes hIe (by have := g5.1; omega)
                    exact ih (i + zwid T n i) d (sp + 1) F1 R1 s.1 s.2.1 s.2.2.1 s.2.2.2 (by omega) (by omega) g5 (by rw [g6]; exact hd) hsk hIs (fun r hr => hq r (zxr_item hlt c33 c46 c89 hm hr))
                  · exfalso; omega
              · obtain ⟨g1, g2, g3, g4, g5, g6⟩ := ztok_o hf hlt hat c33 c46 c89
                have hdg : 1 ≤ zdg (T i) ∧ zdg (T i) ≤ 9 := by rw [zdg_dig (by omega)]; omega
                refine z_iinc (lv' := [(3, .int (iI (((i : Int) + 2)))), (5, .int (iI ((T i)))), (0, .ref x), (1, .ref h), (2, .int (iI ((d : Int)))), (4, .int (iI ((sp : Int))))]) (pc := 92) C dX3_sendTo_92 4 rfl (by decide) rfl ?_
                refine z_aload_n (pc := 95) C dX3_sendTo_95 2 rfl ?_
                refine z_iload_n (pc := 96) C dX3_sendTo_96 4 rfl ?_
                refine z_iload_n (pc := 97) C dX3_sendTo_97 0 rfl ?_
                refine z_iload (pc := 98) C dX3_sendTo_98 1 rfl ?_
                refine z_callS (As := [.int (iI ((T i)))]) (rest := [.int (iI (((i : Int) + 2))), .int (iI ((d : Int))), .ref x]) (wc := []) (wr := [(x, .inr (3, [.ref t1, .ref t2, .ref t3, .int (iI ((n : Int)))])), cC G t1 60 T, cI G t2 30 F1, cI G t3 30 R1, (h, .inr (2, [.ref a1, .ref a2, .ref a3, .int (iI ((e1 : Int))), .int (iI ((k1 : Int)))])), cL G a1 24 (zrw b1), cI G a2 37 W1, cI G a3 5 S]) (pc := 100) C dX3_sendTo_100 (k_X3_digit l G (T i) hTi) gX3_sendTo_X3_digit ⟨⟨_, rfl⟩, ⟨rfl, rfl⟩, nyX3_digit, ⟨Nat.le_of_ble_eq_true rfl, Nat.le_of_ble_eq_true rfl⟩⟩ (fun h => h) rfl (Nat.le_of_ble_eq_true rfl) [] [0, 1, 2, 3, 4, 5, 6, 7] rfl rfl (by decide) (by decide) (by decide) ⟨Nat.le_of_ble_eq_true rfl, Nat.le_of_ble_eq_true rfl⟩ (fun v w hk => ?_)
                obtain ⟨rfl, rfl⟩ := hk
                refine z_fix (pc2 := 103) (st2 := [.int (iI ((zdg (T i)))), .int (iI (((i : Int) + 2))), .int (iI ((d : Int))), .ref x]) (ws' := [(x, .inr (3, [.ref t1, .ref t2, .ref t3, .int (iI ((n : Int)))])), cC G t1 60 T, cI G t2 30 F1, cI G t3 30 R1, (h, .inr (2, [.ref a1, .ref a2, .ref a3, .int (iI ((e1 : Int))), .int (iI ((k1 : Int)))])), cL G a1 24 (zrw b1), cI G a2 37 W1, cI G a3 5 S]) [0, 1, 2, 3, 4, 5, 6, 7] rfl rfl rfl (by decide) ?_
                refine z_callV (As := [.int (iI ((d : Int))), .int (iI (((i : Int) + 2))), .int (iI ((zdg (T i))))]) (rest := []) (wc := [(x, .inr (3, [.ref t1, .ref t2, .ref t3, .int (iI ((n : Int)))])), cC G t1 60 T, cI G t2 30 F1, cI G t3 30 R1]) (wr := [(h, .inr (2, [.ref a1, .ref a2, .ref a3, .int (iI ((e1 : Int))), .int (iI ((k1 : Int)))])), cL G a1 24 (zrw b1), cI G a2 37 W1, cI G a3 5 S]) (fs := [.ref t1, .ref t2, .ref t3, .int (iI ((n : Int)))]) (pc := 103) C dX3_sendTo_103 (k_X3_beginRepeat l G x t1 t2 t3 T F1 R1 n hT hn60 d (i + 2) (zdg (T i)) (by omega)) gX3_sendTo_X3_beginRepeat ⟨⟨_, rfl⟩, ⟨rfl, rfl⟩, nyX3_beginRepeat, ⟨Nat.le_of_ble_eq_true rfl, Nat.le_of_ble_eq_true rfl⟩⟩ rfl zCl3 rfl (fun h => h) rfl (Nat.le_of_ble_eq_true rfl) [0, 1, 2, 3] [4, 5, 6, 7] rfl rfl (by decide) (by decide) (by decide) ⟨Nat.le_of_ble_eq_true rfl, Nat.le_of_ble_eq_true rfl⟩ (fun v w hk => ?_)
                obtain ⟨rfl, rfl⟩ := hk
                refine z_fix (pc2 := 106) (st2 := [.int (iI 1)]) (ws' := [(x, .inr (3, [.ref t1, .ref t2, .ref t3, .int (iI ((n : Int)))])), cC G t1 60 T, cI G t2 30 (zU F1 d (((i + 2) : Nat) : Int)), cI G t3 30 (zU R1 d (zdg (T i))), (h, .inr (2, [.ref a1, .ref a2, .ref a3, .int (iI ((e1 : Int))), .int (iI ((k1 : Int)))])), cL G a1 24 (zrw b1), cI G a2 37 W1, cI G a3 5 S]) [4, 5, 6, 7, 0, 1, 2, 3] rfl rfl rfl (by decide) ?_
                refine z_if_ne (tgt := 111) (pc := 106) C dX3_sendTo_106 (by decide) (by decide) (fun c106 => ?_) (fun c106 => ?_)
                · refine z_iinc (lv' := [(2, .int (iI (((d : Int) + 1)))), (3, .int (iI (((i : Int) + 2)))), (5, .int (iI ((T i)))), (0, .ref x), (1, .ref h), (4, .int (iI ((sp : Int))))]) (pc := 111) C dX3_sendTo_111 4 rfl (by decide) rfl ?_
                  refine z_goto (tgt := 136) (pc := 114) C dX3_sendTo_114 (by decide) ?_
                  refine z_iinc (lv' := [(4, .int (iI (((sp : Int) + 1)))), (2, .int (iI (((d : Int) + 1)))), (3, .int (iI (((i : Int) + 2)))), (5, .int (iI ((T i)))), (0, .ref x), (1, .ref h)]) (pc := 136) C dX3_sendTo_136 5 rfl (by decide) rfl ?_
                  refine z_goto (tgt := 7) (pc := 139) C dX3_sendTo_139 (by decide) ?_
                  refine z_lv (lv' := [(0, .ref x), (1, .ref h), (2, .int (iI (((d : Int) + 1)))), (3, .int (iI (((i : Int) + 2)))), (4, .int (iI (((sp : Int) + 1))))]) [4, 5, 1, 2, 0] rfl ?_
                  have hzm := zme_fwd (T := T) (i := i) (j := i + 2) (e := e1) (fun _ => g5) (by omega) (by omega)
                  exact ih (i + 2) (d + 1) (sp + 1) _ _ b1 W1 e1 k1 (by omega) (by omega) g4 (by rw [g6, hd]; omega) (zsk_open hsk g3 g4 g5 (by rw [g6, hd]) hdg) hI1 (fun r hr => hq r (zxr_open hlt c33 c46 c89 hr))
                · exfalso; omega
            · obtain ⟨g1, g2, g3, g4, g5⟩ := ztok_p hf hlt hat c46
              have hd0 : 0 < d := by omega
              have hk := hsk (d - 1) (by omega)
              refine z_aload_n (pc := 49) C dX3_sendTo_49 1 rfl ?_
              refine z_iload_n (pc := 50) C dX3_sendTo_50 3 rfl ?_
              refine z_iconst (pc := 51) C dX3_sendTo_51 ?_
              refine z_isub (pc := 52) C dX3_sendTo_52 ?_
              refine z_callV (As := [.int (iI (((d : Int) - 1)))]) (rest := []) (wc := [(x, .inr (3, [.ref t1, .ref t2, .ref t3, .int (iI ((n : Int)))])), cC G t1 60 T, cI G t2 30 F1, cI G t3 30 R1]) (wr := [(h, .inr (2, [.ref a1, .ref a2, .ref a3, .int (iI ((e1 : Int))), .int (iI ((k1 : Int)))])), cL G a1 24 (zrw b1), cI G a2 37 W1, cI G a3 5 S]) (fs := [.ref t1, .ref t2, .ref t3, .int (iI ((n : Int)))]) (pc := 53) C dX3_sendTo_53 (k_X3_isRepeatDue l G x t1 t2 t3 T F1 R1 n hT hn60 d hd0 (by omega) hk.2.2.2.2) gX3_sendTo_X3_isRepeatDue ⟨⟨_, rfl⟩, ⟨rfl, rfl⟩, nyX3_isRepeatDue, ⟨Nat.le_of_ble_eq_true rfl, Nat.le_of_ble_eq_true rfl⟩⟩ rfl zCl3 rfl (fun h => h) rfl (Nat.le_of_ble_eq_true rfl) [0, 1, 2, 3] [4, 5, 6, 7] rfl rfl (by decide) (by decide) (by decide) ⟨Nat.le_of_ble_eq_true rfl, Nat.le_of_ble_eq_true rfl⟩ (fun v w hk => ?_)
              obtain ⟨r_53, h53_0, rfl, rfl⟩ := hk
              refine z_fix (pc2 := 56) (st2 := [.int (iI r_53)]) (ws' := [(x, .inr (3, [.ref t1, .ref t2, .ref t3, .int (iI ((n : Int)))])), cC G t1 60 T, cI G t2 30 F1, cI G t3 30 (zU R1 (d - 1) (R1 (d - 1) - 1)), (h, .inr (2, [.ref a1, .ref a2, .ref a3, .int (iI ((e1 : Int))), .int (iI ((k1 : Int)))])), cL G a1 24 (zrw b1), cI G a2 37 W1, cI G a3 5 S]) [4, 5, 6, 7, 0, 1, 2, 3] rfl rfl rfl (by decide) ?_
              refine z_if_eq (tgt := 71) (pc := 56) C dX3_sendTo_56 (by decide) ⟨by omega, by omega⟩ (fun c56 => ?_) (fun c56 => ?_)
              · refine z_iinc (lv' := [(2, .int (iI (((d : Int) + (-1))))), (5, .int (iI ((T i)))), (0, .ref x), (1, .ref h), (3, .int (iI ((i : Int)))), (4, .int (iI ((sp : Int))))]) (pc := 71) C dX3_sendTo_71 3 rfl (by decide) rfl ?_
                refine z_iinc (lv' := [(3, .int (iI (((i : Int) + 1)))), (2, .int (iI (((d : Int) + (-1))))), (5, .int (iI ((T i)))), (0, .ref x), (1, .ref h), (4, .int (iI ((sp : Int))))]) (pc := 74) C dX3_sendTo_74 4 rfl (by decide) rfl ?_
                refine z_goto (tgt := 136) (pc := 77) C dX3_sendTo_77 (by decide) ?_
                refine z_iinc (lv' := [(4, .int (iI (((sp : Int) + 1)))), (3, .int (iI (((i : Int) + 1)))), (2, .int (iI (((d : Int) + (-1))))), (5, .int (iI ((T i)))), (0, .ref x), (1, .ref h)]) (pc := 136) C dX3_sendTo_136 5 rfl (by decide) rfl ?_
                refine z_goto (tgt := 7) (pc := 139) C dX3_sendTo_139 (by decide) ?_
                refine z_lv (lv' := [(0, .ref x), (1, .ref h), (2, .int (iI (((d : Int) + (-1))))), (3, .int (iI (((i : Int) + 1)))), (4, .int (iI (((sp : Int) + 1))))]) [4, 5, 2, 1, 0] rfl ?_
                have hzm := zme_fwd (T := T) (i := i) (j := i + 1) (e := e1) (fun q => absurd q g5) (by omega) (by omega)
                refine z_eq rfl (lv2 := [(0, .ref x), (1, .ref h), (2, .int (iI (((d - 1 : Nat) : Int)))), (3, .int (iI (((i + 1 : Nat) : Int)))), (4, .int (iI (((sp + 1 : Nat) : Int))))]) (by rw [show ((d - 1 : Nat) : Int) = (d : Int) + (-1) by omega]; rfl) rfl rfl ?_
                exact ih (i + 1) (d - 1) (sp + 1) F1 _ b1 W1 e1 k1 (by omega) (by omega) g2 (by rw [g3, hd]; omega) (zsk_pop hsk) hI1 (fun r hr => hq r (zxr_pop hlt c46 (by omega) hr))
              · refine z_aload_n (pc := 59) C dX3_sendTo_59 1 rfl ?_
                refine z_get (pc := 60) C dX3_sendTo_60 zCl3 ffX3_sendTo_15 0 rfl rfl ?_
                refine z_iload_n (pc := 63) C dX3_sendTo_63 3 rfl ?_
                refine z_iconst (pc := 64) C dX3_sendTo_64 ?_
                refine z_isub (pc := 65) C dX3_sendTo_65 ?_
                refine z_iald (pc := 66) C dX3_sendTo_66 2 rfl ((d - 1)) (by omega) (by omega) (by decide) ?_
                refine z_topi (y := ((((F1 (d - 1)).toNat) : Nat) : Int)) (by omega) ?_
                refine z_istore_n (lv' := [(3, .int (iI (((((F1 (d - 1)).toNat) : Nat) : Int)))), (5, .int (iI ((T i)))), (0, .ref x), (1, .ref h), (2, .int (iI ((d : Int)))), (4, .int (iI ((sp : Int))))]) (pc := 67) C dX3_sendTo_67 (by decide) rfl ?_
                refine z_goto (tgt := 136) (pc := 68) C dX3_sendTo_68 (by decide) ?_
                refine z_iinc (lv' := [(4, .int (iI (((sp : Int) + 1)))), (3, .int (iI (((((F1 (d - 1)).toNat) : Nat) : Int)))), (5, .int (iI ((T i)))), (0, .ref x), (1, .ref h), (2, .int (iI ((d : Int))))]) (pc := 136) C dX3_sendTo_136 5 rfl (by decide) rfl ?_
                refine z_goto (tgt := 7) (pc := 139) C dX3_sendTo_139 (by decide) ?_
                refine z_lv (lv' := [(0, .ref x), (1, .ref h), (2, .int (iI ((d : Int)))), (3, .int (iI (((((F1 (d - 1)).toNat) : Nat) : Int)))), (4, .int (iI (((sp : Int) + 1))))]) [3, 4, 5, 1, 0] rfl ?_
                have hzm := zme_back (T := T) (i := i) (j := (F1 (d - 1)).toNat) (e := e1) g5 hk.2.2.1 (by omega)
                exact ih (F1 (d - 1)).toNat d (sp + 1) F1 _ b1 W1 e1 k1 (by omega) (by omega) hk.2.1 (by rw [hk.2.2.2.1]; omega) (zsk_back hsk hd0 (by omega)) hI1 (fun r hr => hq r (zxr_back hlt c46 (by omega) hr))
          · obtain ⟨g1, g2, g3, g4⟩ := ztok_c hf hlt hat c33
            refine z_iinc (lv' := [(3, .int (iI (((i : Int) + 1)))), (5, .int (iI ((T i)))), (0, .ref x), (1, .ref h), (2, .int (iI ((d : Int)))), (4, .int (iI ((sp : Int))))]) (pc := 36) C dX3_sendTo_36 4 rfl (by decide) rfl ?_
            refine z_goto (tgt := 136) (pc := 39) C dX3_sendTo_39 (by decide) ?_
            refine z_iinc (lv' := [(4, .int (iI (((sp : Int) + 1)))), (3, .int (iI (((i : Int) + 1)))), (5, .int (iI ((T i)))), (0, .ref x), (1, .ref h), (2, .int (iI ((d : Int))))]) (pc := 136) C dX3_sendTo_136 5 rfl (by decide) rfl ?_
            refine z_goto (tgt := 7) (pc := 139) C dX3_sendTo_139 (by decide) ?_
            refine z_lv (lv' := [(0, .ref x), (1, .ref h), (2, .int (iI ((d : Int)))), (3, .int (iI (((i : Int) + 1)))), (4, .int (iI (((sp : Int) + 1))))]) [3, 4, 5, 1, 0] rfl ?_
            have hzm := zme_back (T := T) (i := i) (j := i + 1) (e := e1) g4 g3 (by omega)
            exact ih (i + 1) d (sp + 1) F1 R1 b1 W1 e1 k1 (by omega) (by omega) g1 (by rw [g2]; exact hd) hsk hI1 (fun r hr => hq r (zxr_comma hlt c33 hr))
  refine z_lv (lv' := [(0, .ref x), (1, .ref h), (2, .int (iI 0)), (3, .int (iI 0)), (4, .int (iI 0))]) [3, 4, 2, 1, 0] rfl ?_
  exact L7 650001 0 0 0 F R b W e k (by omega) (by omega) ⟨by omega, Or.inl rfl⟩ rfl (zsk_0 _ _ _ _) hI (fun r hr => hr)
