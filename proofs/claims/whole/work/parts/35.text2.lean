/-! THE TEXT, walked: the program sent -/
theorem ffX3_sendTo_34 : zFF wsX3_sendTo RX3 34 RX3 TX3 5 4 := ⟨by decide +kernel, by decide, by decide +kernel⟩
theorem ffX3_sendTo_22 : zFF wsX3_sendTo RX3 22 RX3 TX3 5 3 := ⟨by decide +kernel, by decide, by decide +kernel⟩
theorem nyX3_sendItem : yX3_sendItem.cls ≠ "java/lang/invoke/MethodHandle" ∧ yX3_sendItem.cls ≠ "java/lang/invoke/VarHandle" ∧ (parseMethodDescriptor yX3_sendItem.desc).map (fun d => d.parameters.length) = some 2 := by decide +kernel
theorem nyX3_beginRepeat : yX3_beginRepeat.cls ≠ "java/lang/invoke/MethodHandle" ∧ yX3_beginRepeat.cls ≠ "java/lang/invoke/VarHandle" ∧ (parseMethodDescriptor yX3_beginRepeat.desc).map (fun d => d.parameters.length) = some 2 := by decide +kernel
theorem nyX3_endRepeat : yX3_endRepeat.cls ≠ "java/lang/invoke/MethodHandle" ∧ yX3_endRepeat.cls ≠ "java/lang/invoke/VarHandle" ∧ (parseMethodDescriptor yX3_endRepeat.desc).map (fun d => d.parameters.length) = some 1 := by decide +kernel
set_option maxHeartbeats 4000000 in
set_option maxRecDepth 100000 in
theorem k_X3_sendTo (l : Launch) (G : ZG) (h a1 a2 a3 : Nat) (b : Nat → Bool) (W S : Nat → Int) (e k : Nat) (hI : zI b W S e k) (x t1 t2 t3 : Nat) (T F R : Nat → Int) (n o : Nat) (hT : ∀ i, 0 ≤ T i ∧ T i < 65536) (hn60 : n ≤ 60) (hf : zfree T n) : Kt l G yX3_sendTo wsX3_sendTo { frames := 5, cells := 0, slots := 0, locals := 115 } 0 0 False [.ref x, .ref h] [(x, .inr (3, [.ref t1, .ref t2, .ref t3, .int (iI ((n : Int))), .int (iI ((o : Int)))])), cC G t1 60 T, cI G t2 30 F, cI G t3 30 R, (h, .inr (2, [.ref a1, .ref a2, .ref a3, .int (iI ((e : Int))), .int (iI ((k : Int)))])), cL G a1 24 (zrw b), cI G a2 37 W, cI G a3 5 S] (fun v9 w9 => ∃ (r : Int) (b9 : Nat → Bool) (W9 : Nat → Int) (e9 : Nat) (k9 : Nat) (F9 : Nat → Int) (R9 : Nat → Int) (o9 : Nat), ((r = 1 ∧ zxr S T n 0 0 F R (b, W, e, k) (some (b9, W9, e9, k9))) ∨ (r = 0 ∧ zxr S T n 0 0 F R (b, W, e, k) none)) ∧ (zI b9 W9 S e9 k9) ∧ v9 = some (.int (iI r)) ∧ w9 = [(x, .inr (3, [.ref t1, .ref t2, .ref t3, .int (iI ((n : Int))), .int (iI ((o9 : Int)))])), cC G t1 60 T, cI G t2 30 F9, cI G t3 30 R9, (h, .inr (2, [.ref a1, .ref a2, .ref a3, .int (iI ((e9 : Int))), .int (iI ((k9 : Int)))])), cL G a1 24 (zrw b9), cI G a2 37 W9, cI G a3 5 S]) := by
  refine Kt.of (cc := cX3_sendTo) (nL := 5) (ret := (some .boolean)) (own := RX3) rfl (by decide +kernel) rfl (Nat.le_of_ble_eq_true rfl) ?_
  intro X Y C R0 hin
  show Z l X G Y 5 0 0 0 [(0, .ref x), (1, .ref h)] [] [(x, .inr (3, [.ref t1, .ref t2, .ref t3, .int (iI ((n : Int))), .int (iI ((o : Int)))])), cC G t1 60 T, cI G t2 30 F, cI G t3 30 R, (h, .inr (2, [.ref a1, .ref a2, .ref a3, .int (iI ((e : Int))), .int (iI ((k : Int)))])), cL G a1 24 (zrw b), cI G a2 37 W, cI G a3 5 S]
  obtain ⟨he, hk, hb, s0, s1, s2, s3, s4, hw⟩ := id hI
  have hz0 : zme T 0 e ≤ 600060 := by unfold zme; rw [if_pos (show zpP T 0 = 0 from rfl)]; omega
  refine z_aload_n (pc := 0) C dX3_sendTo_0 0 rfl ?_
  refine z_iconst (pc := 1) C dX3_sendTo_1 ?_
  refine z_put (ty := .int) (ws' := [(x, .inr (3, [.ref t1, .ref t2, .ref t3, .int (iI ((n : Int))), .int (iI 0)])), cC G t1 60 T, cI G t2 30 F, cI G t3 30 R, (h, .inr (2, [.ref a1, .ref a2, .ref a3, .int (iI ((e : Int))), .int (iI ((k : Int)))])), cL G a1 24 (zrw b), cI G a2 37 W, cI G a3 5 S]) (pc := 2) C dX3_sendTo_2 zCl3 ffX3_sendTo_34 0 rfl rfl rfl rfl rfl (Nat.le_of_ble_eq_true rfl) rfl ?_
  refine z_iconst (pc := 5) C dX3_sendTo_5 ?_
  refine z_istore_n (lv' := [(2, .int (iI 0)), (0, .ref x), (1, .ref h)]) (pc := 6) C dX3_sendTo_6 (by decide) rfl ?_
  refine z_iconst (pc := 7) C dX3_sendTo_7 ?_
  refine z_istore_n (lv' := [(3, .int (iI 0)), (2, .int (iI 0)), (0, .ref x), (1, .ref h)]) (pc := 8) C dX3_sendTo_8 (by decide) rfl ?_
  have L9 : ∀ (m : Nat) (i d sp : Nat) (F1 R1 : Nat → Int) (b1 : Nat → Bool) (W1 : Nat → Int) (e1 k1 : Nat), zme T i e1 < m → sp + zme T i e1 ≤ 650000 → zat T n i → zpD T i = (d : Int) → zsk T n d F1 R1 → zI b1 W1 S e1 k1 → (∀ r, zxr S T n i d F1 R1 (b1, W1, e1, k1) r → zxr S T n 0 0 F R (b, W, e, k) r) → Z l X G Y 5 0 0 9 [(0, .ref x), (1, .ref h), (2, .int (iI ((i : Int)))), (3, .int (iI ((sp : Int))))] [] [(x, .inr (3, [.ref t1, .ref t2, .ref t3, .int (iI ((n : Int))), .int (iI ((d : Int)))])), cC G t1 60 T, cI G t2 30 F1, cI G t3 30 R1, (h, .inr (2, [.ref a1, .ref a2, .ref a3, .int (iI ((e1 : Int))), .int (iI ((k1 : Int)))])), cL G a1 24 (zrw b1), cI G a2 37 W1, cI G a3 5 S] := by
    intro m
    induction m with
    | zero => intro i d sp F1 R1 b1 W1 e1 k1 hn hsp hat hd hsk hI1 hq; exact absurd hn (by omega)
    | succ m ih =>
      intro i d sp F1 R1 b1 W1 e1 k1 hn hsp hat hd hsk hI1 hq
      refine z_iload_n (pc := 9) C dX3_sendTo_9 3 rfl ?_
      refine z_ldc (n := 1000000) (pc := 10) C dX3_sendTo_10 (by decide +kernel) ?_
      have hin := hat.1
      refine z_icmp_ge (tgt := 104) (pc := 12) C dX3_sendTo_12 (by decide) ⟨by omega, by omega⟩ (by decide) (fun c12 => ?_) (fun c12 => ?_)
      · exfalso; omega
      · refine z_iload_n (pc := 15) C dX3_sendTo_15 2 rfl ?_
        refine z_if_lt (tgt := 104) (pc := 16) C dX3_sendTo_16 (by decide) ⟨by omega, by omega⟩ (fun c16 => ?_) (fun c16 => ?_)
        · exfalso; omega
        · refine z_iload_n (pc := 19) C dX3_sendTo_19 2 rfl ?_
          refine z_aload_n (pc := 20) C dX3_sendTo_20 0 rfl ?_
          refine z_get (pc := 21) C dX3_sendTo_21 zCl3 ffX3_sendTo_22 0 rfl rfl ?_
          refine z_icmp_ge (tgt := 104) (pc := 24) C dX3_sendTo_24 (by decide) ⟨by omega, by omega⟩ ⟨by omega, by omega⟩ (fun c24 => ?_) (fun c24 => ?_)
          · refine z_iload_n (pc := 104) C dX3_sendTo_104 2 rfl ?_
            refine z_aload_n (pc := 105) C dX3_sendTo_105 0 rfl ?_
            refine z_get (pc := 106) C dX3_sendTo_106 zCl3 ffX3_sendTo_22 0 rfl rfl ?_
            refine z_icmp_lt (tgt := 116) (pc := 109) C dX3_sendTo_109 (by decide) ⟨by omega, by omega⟩ ⟨by omega, by omega⟩ (fun c109 => ?_) (fun c109 => ?_)
            · exfalso; omega
            · refine z_iconst (pc := 112) C dX3_sendTo_112 ?_
              refine z_goto (tgt := 117) (pc := 113) C dX3_sendTo_113 (by decide) ?_
              exact z_zret (pc := 117) C R0 (by decide) dX3_sendTo_117 (⟨1, _, _, _, _, _, _, _, Or.inl ⟨rfl, hq _ (zxr_done (by omega))⟩, hI1, rfl, rfl⟩)
          · have hlt : i < n := by omega
            have hdp := zdep hf.1 i (by omega)
            have hTi := hT i
            refine z_aload_n (pc := 27) C dX3_sendTo_27 0 rfl ?_
            refine z_iload_n (pc := 28) C dX3_sendTo_28 2 rfl ?_
            refine z_callV (As := [.int (iI ((i : Int)))]) (rest := []) (wc := [(x, .inr (3, [.ref t1, .ref t2, .ref t3, .int (iI ((n : Int))), .int (iI ((d : Int)))])), cC G t1 60 T, cI G t2 30 F1, cI G t3 30 R1]) (wr := [(h, .inr (2, [.ref a1, .ref a2, .ref a3, .int (iI ((e1 : Int))), .int (iI ((k1 : Int)))])), cL G a1 24 (zrw b1), cI G a2 37 W1, cI G a3 5 S]) (fs := [.ref t1, .ref t2, .ref t3, .int (iI ((n : Int))), .int (iI ((d : Int)))]) (pc := 29) C dX3_sendTo_29 (k_X3_characterAt l G x t1 t2 t3 T F1 R1 n d hT hn60 (i : Int) ⟨by omega, by omega⟩) gX3_sendTo_X3_characterAt ⟨⟨_, rfl⟩, ⟨rfl, rfl⟩, nyX3_characterAt, ⟨Nat.le_of_ble_eq_true rfl, Nat.le_of_ble_eq_true rfl⟩⟩ rfl zCl3 rfl (fun h => h) rfl (Nat.le_of_ble_eq_true rfl) [0, 1, 2, 3] [4, 5, 6, 7] rfl rfl (by decide) (by decide) (by decide) ⟨Nat.le_of_ble_eq_true rfl, Nat.le_of_ble_eq_true rfl⟩ (fun v w hk => ?_)
            obtain ⟨rfl, rfl⟩ := hk
            refine z_fix (pc2 := 32) (st2 := [.int (iI ((zch T n (i : Int))))]) (ws' := [(x, .inr (3, [.ref t1, .ref t2, .ref t3, .int (iI ((n : Int))), .int (iI ((d : Int)))])), cC G t1 60 T, cI G t2 30 F1, cI G t3 30 R1, (h, .inr (2, [.ref a1, .ref a2, .ref a3, .int (iI ((e1 : Int))), .int (iI ((k1 : Int)))])), cL G a1 24 (zrw b1), cI G a2 37 W1, cI G a3 5 S]) [4, 5, 6, 7, 0, 1, 2, 3] rfl rfl rfl (by decide) ?_
            refine z_topi (y := (T i)) (zch_at hlt) ?_
            refine z_istore (lv' := [(4, .int (iI ((T i)))), (0, .ref x), (1, .ref h), (2, .int (iI ((i : Int)))), (3, .int (iI ((sp : Int))))]) (pc := 32) C dX3_sendTo_32 (by decide) rfl ?_
            refine z_iload (pc := 34) C dX3_sendTo_34 0 rfl ?_
            refine z_bipush (pc := 36) C dX3_sendTo_36 (by decide +kernel) ?_
            refine z_icmp_ne (tgt := 47) (pc := 38) C dX3_sendTo_38 (by decide) ⟨by omega, by omega⟩ (by decide) (fun c38 => ?_) (fun c38 => ?_)
            · refine z_iload (pc := 47) C dX3_sendTo_47 0 rfl ?_
              refine z_bipush (pc := 49) C dX3_sendTo_49 (by decide +kernel) ?_
              refine z_icmp_ne (tgt := 63) (pc := 51) C dX3_sendTo_51 (by decide) ⟨by omega, by omega⟩ (by decide) (fun c51 => ?_) (fun c51 => ?_)
              · refine z_aload_n (pc := 63) C dX3_sendTo_63 1 rfl ?_
                refine z_iload_n (pc := 64) C dX3_sendTo_64 3 rfl ?_
                refine z_iconst (pc := 65) C dX3_sendTo_65 ?_
                refine z_iadd (pc := 66) C dX3_sendTo_66 ?_
                refine z_callV (As := [.int (iI (((i : Int) + 1)))]) (rest := []) (wc := [(x, .inr (3, [.ref t1, .ref t2, .ref t3, .int (iI ((n : Int))), .int (iI ((d : Int)))])), cC G t1 60 T, cI G t2 30 F1, cI G t3 30 R1]) (wr := [(h, .inr (2, [.ref a1, .ref a2, .ref a3, .int (iI ((e1 : Int))), .int (iI ((k1 : Int)))])), cL G a1 24 (zrw b1), cI G a2 37 W1, cI G a3 5 S]) (fs := [.ref t1, .ref t2, .ref t3, .int (iI ((n : Int))), .int (iI ((d : Int)))]) (pc := 67) C dX3_sendTo_67 (k_X3_characterAt l G x t1 t2 t3 T F1 R1 n d hT hn60 ((i : Int) + 1) ⟨by omega, by omega⟩) gX3_sendTo_X3_characterAt ⟨⟨_, rfl⟩, ⟨rfl, rfl⟩, nyX3_characterAt, ⟨Nat.le_of_ble_eq_true rfl, Nat.le_of_ble_eq_true rfl⟩⟩ rfl zCl3 rfl (fun h => h) rfl (Nat.le_of_ble_eq_true rfl) [0, 1, 2, 3] [4, 5, 6, 7] rfl rfl (by decide) (by decide) (by decide) ⟨Nat.le_of_ble_eq_true rfl, Nat.le_of_ble_eq_true rfl⟩ (fun v w hk => ?_)
                obtain ⟨rfl, rfl⟩ := hk
                refine z_fix (pc2 := 70) (st2 := [.int (iI ((zch T n ((i : Int) + 1))))]) (ws' := [(x, .inr (3, [.ref t1, .ref t2, .ref t3, .int (iI ((n : Int))), .int (iI ((d : Int)))])), cC G t1 60 T, cI G t2 30 F1, cI G t3 30 R1, (h, .inr (2, [.ref a1, .ref a2, .ref a3, .int (iI ((e1 : Int))), .int (iI ((k1 : Int)))])), cL G a1 24 (zrw b1), cI G a2 37 W1, cI G a3 5 S]) [4, 5, 6, 7, 0, 1, 2, 3] rfl rfl rfl (by decide) ?_
                have hcb := zch_b hT n ((i : Int) + 1)
                refine z_bipush (pc := 70) C dX3_sendTo_70 (by decide +kernel) ?_
                refine z_icmp_ne (tgt := 91) (pc := 72) C dX3_sendTo_72 (by decide) ⟨by omega, by omega⟩ (by decide) (fun c72 => ?_) (fun c72 => ?_)
                · obtain ⟨g1, g2, g3, g4, g5, g6, g7, g8⟩ := ztok_i hf hlt hat c38 c51 c72
                  cases hm : zitm S T n i (b1, W1, e1, k1) with
                  | none =>
                    refine z_aload_n (pc := 91) C dX3_sendTo_91 1 rfl ?_
                    refine z_iload_n (pc := 92) C dX3_sendTo_92 3 rfl ?_
                    refine z_aload_n (pc := 93) C dX3_sendTo_93 2 rfl ?_
                    refine z_callV (As := [.int (iI ((i : Int))), .ref h]) (rest := []) (wc := [(x, .inr (3, [.ref t1, .ref t2, .ref t3, .int (iI ((n : Int))), .int (iI ((d : Int)))])), cC G t1 60 T, cI G t2 30 F1, cI G t3 30 R1, (h, .inr (2, [.ref a1, .ref a2, .ref a3, .int (iI ((e1 : Int))), .int (iI ((k1 : Int)))])), cL G a1 24 (zrw b1), cI G a2 37 W1, cI G a3 5 S]) (wr := []) (fs := [.ref t1, .ref t2, .ref t3, .int (iI ((n : Int))), .int (iI ((d : Int)))]) (pc := 94) C dX3_sendTo_94 (k_X3_sendItem_f l G h a1 a2 a3 b1 W1 S e1 k1 hI1 x t1 t2 t3 T F1 R1 n d hT hn60 i g2 g3 g4 hm) gX3_sendTo_X3_sendItem ⟨⟨_, rfl⟩, ⟨rfl, rfl⟩, nyX3_sendItem, ⟨Nat.le_of_ble_eq_true rfl, Nat.le_of_ble_eq_true rfl⟩⟩ rfl zCl3 rfl (fun h => h) rfl (Nat.le_of_ble_eq_true rfl) [0, 1, 2, 3, 4, 5, 6, 7] [] rfl rfl (by decide) (by decide) (by decide) ⟨Nat.le_of_ble_eq_true rfl, Nat.le_of_ble_eq_true rfl⟩ (fun v w hk => ?_)
                    obtain ⟨rfl, rfl⟩ := hk
                    refine z_fix (pc2 := 97) (st2 := [.int (iI ((-5)))]) (ws' := [(x, .inr (3, [.ref t1, .ref t2, .ref t3, .int (iI ((n : Int))), .int (iI ((d : Int)))])), cC G t1 60 T, cI G t2 30 F1, cI G t3 30 R1, (h, .inr (2, [.ref a1, .ref a2, .ref a3, .int (iI ((e1 : Int))), .int (iI ((k1 : Int)))])), cL G a1 24 (zrw b1), cI G a2 37 W1, cI G a3 5 S]) [0, 1, 2, 3, 4, 5, 6, 7] rfl rfl rfl (by decide) ?_
                    refine z_istore_n (lv' := [(2, .int (iI ((-5)))), (4, .int (iI ((T i)))), (0, .ref x), (1, .ref h), (3, .int (iI ((sp : Int))))]) (pc := 97) C dX3_sendTo_97 (by decide) rfl ?_
                    refine z_iinc (lv' := [(3, .int (iI (((sp : Int) + 1)))), (2, .int (iI ((-5)))), (4, .int (iI ((T i)))), (0, .ref x), (1, .ref h)]) (pc := 98) C dX3_sendTo_98 4 rfl (by decide) rfl ?_
                    refine z_goto (tgt := 9) (pc := 101) C dX3_sendTo_101 (by decide) ?_
                    refine z_iload_n (pc := 9) C dX3_sendTo_9 0 rfl ?_
                    refine z_ldc (n := 1000000) (pc := 10) C dX3_sendTo_10 (by decide +kernel) ?_
                    have hin := hat.1
                    refine z_icmp_ge (tgt := 104) (pc := 12) C dX3_sendTo_12 (by decide) ⟨by omega, by omega⟩ (by decide) (fun c12 => ?_) (fun c12 => ?_)
                    · exfalso; omega
                    · refine z_iload_n (pc := 15) C dX3_sendTo_15 1 rfl ?_
                      refine z_if_lt (tgt := 104) (pc := 16) C dX3_sendTo_16 (by decide) (by decide) (fun c16 => ?_) (fun c16 => ?_)
                      · refine z_iload_n (pc := 104) C dX3_sendTo_104 1 rfl ?_
                        refine z_aload_n (pc := 105) C dX3_sendTo_105 3 rfl ?_
                        refine z_get (pc := 106) C dX3_sendTo_106 zCl3 ffX3_sendTo_22 0 rfl rfl ?_
                        refine z_icmp_lt (tgt := 116) (pc := 109) C dX3_sendTo_109 (by decide) (by decide) ⟨by omega, by omega⟩ (fun c109 => ?_) (fun c109 => ?_)
                        · refine z_iconst (pc := 116) C dX3_sendTo_116 ?_
                          exact z_zret (pc := 117) C R0 (by decide) dX3_sendTo_117 (⟨0, _, _, _, _, _, _, _, Or.inr ⟨rfl, hq _ (zxr_full hlt c38 c51 c72 hm)⟩, hI1, rfl, rfl⟩)
                        · exfalso; omega
                      · exfalso; omega
                  | some s =>
                    obtain ⟨hIs, hes⟩ := zitm_I hI1 g3 g4 hm
                    refine z_aload_n (pc := 91) C dX3_sendTo_91 1 rfl ?_
                    refine z_iload_n (pc := 92) C dX3_sendTo_92 3 rfl ?_
                    refine z_aload_n (pc := 93) C dX3_sendTo_93 2 rfl ?_
                    refine z_callV (As := [.int (iI ((i : Int))), .ref h]) (rest := []) (wc := [(x, .inr (3, [.ref t1, .ref t2, .ref t3, .int (iI ((n : Int))), .int (iI ((d : Int)))])), cC G t1 60 T, cI G t2 30 F1, cI G t3 30 R1, (h, .inr (2, [.ref a1, .ref a2, .ref a3, .int (iI ((e1 : Int))), .int (iI ((k1 : Int)))])), cL G a1 24 (zrw b1), cI G a2 37 W1, cI G a3 5 S]) (wr := []) (fs := [.ref t1, .ref t2, .ref t3, .int (iI ((n : Int))), .int (iI ((d : Int)))]) (pc := 94) C dX3_sendTo_94 (k_X3_sendItem_t l G h a1 a2 a3 b1 W1 S e1 k1 hI1 x t1 t2 t3 T F1 R1 n d hT hn60 i s g2 g3 g4 hm) gX3_sendTo_X3_sendItem ⟨⟨_, rfl⟩, ⟨rfl, rfl⟩, nyX3_sendItem, ⟨Nat.le_of_ble_eq_true rfl, Nat.le_of_ble_eq_true rfl⟩⟩ rfl zCl3 rfl (fun h => h) rfl (Nat.le_of_ble_eq_true rfl) [0, 1, 2, 3, 4, 5, 6, 7] [] rfl rfl (by decide) (by decide) (by decide) ⟨Nat.le_of_ble_eq_true rfl, Nat.le_of_ble_eq_true rfl⟩ (fun v w hk => ?_)
                    obtain ⟨rfl, rfl⟩ := hk
                    refine z_fix (pc2 := 97) (st2 := [.int (iI ((((i + zwid T n i) : Nat) : Int)))]) (ws' := [(x, .inr (3, [.ref t1, .ref t2, .ref t3, .int (iI ((n : Int))), .int (iI ((d : Int)))])), cC G t1 60 T, cI G t2 30 F1, cI G t3 30 R1, (h, .inr (2, [.ref a1, .ref a2, .ref a3, .int (iI (((s.2.2.1 : Nat) : Int))), .int (iI (((s.2.2.2 : Nat) : Int)))])), cL G a1 24 (zrw s.1), cI G a2 37 s.2.1, cI G a3 5 S]) [0, 1, 2, 3, 4, 5, 6, 7] rfl rfl rfl (by decide) ?_
                    refine z_istore_n (lv' := [(2, .int (iI ((((i + zwid T n i) : Nat) : Int)))), (4, .int (iI ((T i)))), (0, .ref x), (1, .ref h), (3, .int (iI ((sp : Int))))]) (pc := 97) C dX3_sendTo_97 (by decide) rfl ?_
                    refine z_iinc (lv' := [(3, .int (iI (((sp : Int) + 1)))), (2, .int (iI ((((i + zwid T n i) : Nat) : Int)))), (4, .int (iI ((T i)))), (0, .ref x), (1, .ref h)]) (pc := 98) C dX3_sendTo_98 4 rfl (by decide) rfl ?_
                    refine z_goto (tgt := 9) (pc := 101) C dX3_sendTo_101 (by decide) ?_
                    refine z_lv (lv' := [(0, .ref x), (1, .ref h), (2, .int (iI ((((i + zwid T n i) : Nat) : Int)))), (3, .int (iI (((sp : Int) + 1))))]) [3, 4, 1, 0] rfl ?_
                    have hIe := hIs.1
                    have hzm := zme_item (T := T) (j := i + zwid T n i) g1 hes hIe (by have := g5.1; omega)
                    exact ih (i + zwid T n i) d (sp + 1) F1 R1 s.1 s.2.1 s.2.2.1 s.2.2.2 (by omega) (by omega) g5 (by rw [g6]; exact hd) hsk hIs (fun r hr => hq r (zxr_item hlt c38 c51 c72 hm hr))
                · obtain ⟨g1, g2, g3, g4, g5, g6⟩ := ztok_o hf hlt hat c38 c51 c72
                  have hdg : 1 ≤ zdg (T i) ∧ zdg (T i) ≤ 9 := by rw [zdg_dig (by omega)]; omega
                  refine z_aload_n (pc := 75) C dX3_sendTo_75 1 rfl ?_
                  refine z_iload_n (pc := 76) C dX3_sendTo_76 3 rfl ?_
                  refine z_iconst (pc := 77) C dX3_sendTo_77 ?_
                  refine z_iadd (pc := 78) C dX3_sendTo_78 ?_
                  refine z_iload (pc := 79) C dX3_sendTo_79 0 rfl ?_
                  refine z_callS (As := [.int (iI ((T i)))]) (rest := [.int (iI (((i : Int) + 2))), .ref x]) (wc := []) (wr := [(x, .inr (3, [.ref t1, .ref t2, .ref t3, .int (iI ((n : Int))), .int (iI ((d : Int)))])), cC G t1 60 T, cI G t2 30 F1, cI G t3 30 R1, (h, .inr (2, [.ref a1, .ref a2, .ref a3, .int (iI ((e1 : Int))), .int (iI ((k1 : Int)))])), cL G a1 24 (zrw b1), cI G a2 37 W1, cI G a3 5 S]) (pc := 81) C dX3_sendTo_81 (k_X3_digit l G (T i) hTi) gX3_sendTo_X3_digit ⟨⟨_, rfl⟩, ⟨rfl, rfl⟩, nyX3_digit, ⟨Nat.le_of_ble_eq_true rfl, Nat.le_of_ble_eq_true rfl⟩⟩ (fun h => h) rfl (Nat.le_of_ble_eq_true rfl) [] [0, 1, 2, 3, 4, 5, 6, 7] rfl rfl (by decide) (by decide) (by decide) ⟨Nat.le_of_ble_eq_true rfl, Nat.le_of_ble_eq_true rfl⟩ (fun v w hk => ?_)
                  obtain ⟨rfl, rfl⟩ := hk
                  refine z_fix (pc2 := 84) (st2 := [.int (iI ((zdg (T i)))), .int (iI (((i : Int) + 2))), .ref x]) (ws' := [(x, .inr (3, [.ref t1, .ref t2, .ref t3, .int (iI ((n : Int))), .int (iI ((d : Int)))])), cC G t1 60 T, cI G t2 30 F1, cI G t3 30 R1, (h, .inr (2, [.ref a1, .ref a2, .ref a3, .int (iI ((e1 : Int))), .int (iI ((k1 : Int)))])), cL G a1 24 (zrw b1), cI G a2 37 W1, cI G a3 5 S]) [0, 1, 2, 3, 4, 5, 6, 7] rfl rfl rfl (by decide) ?_
                  refine z_callV (As := [.int (iI (((i : Int) + 2))), .int (iI ((zdg (T i))))]) (rest := []) (wc := [(x, .inr (3, [.ref t1, .ref t2, .ref t3, .int (iI ((n : Int))), .int (iI ((d : Int)))])), cC G t1 60 T, cI G t2 30 F1, cI G t3 30 R1]) (wr := [(h, .inr (2, [.ref a1, .ref a2, .ref a3, .int (iI ((e1 : Int))), .int (iI ((k1 : Int)))])), cL G a1 24 (zrw b1), cI G a2 37 W1, cI G a3 5 S]) (fs := [.ref t1, .ref t2, .ref t3, .int (iI ((n : Int))), .int (iI ((d : Int)))]) (pc := 84) C dX3_sendTo_84 (k_X3_beginRepeat l G x t1 t2 t3 T F1 R1 n d hT hn60 (i + 2) (zdg (T i)) (by omega)) gX3_sendTo_X3_beginRepeat ⟨⟨_, rfl⟩, ⟨rfl, rfl⟩, nyX3_beginRepeat, ⟨Nat.le_of_ble_eq_true rfl, Nat.le_of_ble_eq_true rfl⟩⟩ rfl zCl3 rfl (fun h => h) rfl (Nat.le_of_ble_eq_true rfl) [0, 1, 2, 3] [4, 5, 6, 7] rfl rfl (by decide) (by decide) (by decide) ⟨Nat.le_of_ble_eq_true rfl, Nat.le_of_ble_eq_true rfl⟩ (fun v w hk => ?_)
                  obtain ⟨rfl, rfl⟩ := hk
                  refine z_fix (pc2 := 87) (st2 := [.int (iI ((((i + 2) : Nat) : Int)))]) (ws' := [(x, .inr (3, [.ref t1, .ref t2, .ref t3, .int (iI ((n : Int))), .int (iI ((((d + 1) : Nat) : Int)))])), cC G t1 60 T, cI G t2 30 (zU F1 d (((i + 2) : Nat) : Int)), cI G t3 30 (zU R1 d (zdg (T i))), (h, .inr (2, [.ref a1, .ref a2, .ref a3, .int (iI ((e1 : Int))), .int (iI ((k1 : Int)))])), cL G a1 24 (zrw b1), cI G a2 37 W1, cI G a3 5 S]) [4, 5, 6, 7, 0, 1, 2, 3] rfl rfl rfl (by decide) ?_
                  refine z_istore_n (lv' := [(2, .int (iI ((((i + 2) : Nat) : Int)))), (4, .int (iI ((T i)))), (0, .ref x), (1, .ref h), (3, .int (iI ((sp : Int))))]) (pc := 87) C dX3_sendTo_87 (by decide) rfl ?_
                  refine z_goto (tgt := 98) (pc := 88) C dX3_sendTo_88 (by decide) ?_
                  refine z_iinc (lv' := [(3, .int (iI (((sp : Int) + 1)))), (2, .int (iI ((((i + 2) : Nat) : Int)))), (4, .int (iI ((T i)))), (0, .ref x), (1, .ref h)]) (pc := 98) C dX3_sendTo_98 4 rfl (by decide) rfl ?_
                  refine z_goto (tgt := 9) (pc := 101) C dX3_sendTo_101 (by decide) ?_
                  refine z_lv (lv' := [(0, .ref x), (1, .ref h), (2, .int (iI ((((i + 2) : Nat) : Int)))), (3, .int (iI (((sp : Int) + 1))))]) [3, 4, 1, 0] rfl ?_
                  have hzm := zme_fwd (T := T) (i := i) (j := i + 2) (e := e1) (fun _ => g5) (by omega) (by omega)
                  exact ih (i + 2) (d + 1) (sp + 1) _ _ b1 W1 e1 k1 (by omega) (by omega) g4 (by rw [g6, hd]; omega) (zsk_open hsk g3 g4 g5 (by rw [g6, hd]) hdg) hI1 (fun r hr => hq r (zxr_open hlt c38 c51 c72 hr))
              · obtain ⟨g1, g2, g3, g4, g5⟩ := ztok_p hf hlt hat c51
                have hd0 : 0 < d := by omega
                have hk := hsk (d - 1) (by omega)
                by_cases hrr : 0 < R1 (d - 1) - 1
                · refine z_aload_n (pc := 54) C dX3_sendTo_54 1 rfl ?_
                  refine z_iload_n (pc := 55) C dX3_sendTo_55 3 rfl ?_
                  refine z_callV (As := [.int (iI ((i : Int)))]) (rest := []) (wc := [(x, .inr (3, [.ref t1, .ref t2, .ref t3, .int (iI ((n : Int))), .int (iI ((d : Int)))])), cC G t1 60 T, cI G t2 30 F1, cI G t3 30 R1]) (wr := [(h, .inr (2, [.ref a1, .ref a2, .ref a3, .int (iI ((e1 : Int))), .int (iI ((k1 : Int)))])), cL G a1 24 (zrw b1), cI G a2 37 W1, cI G a3 5 S]) (fs := [.ref t1, .ref t2, .ref t3, .int (iI ((n : Int))), .int (iI ((d : Int)))]) (pc := 56) C dX3_sendTo_56 (k_X3_endRepeat_t l G x t1 t2 t3 T F1 R1 n d hT hn60 i hd0 (by omega) hk.2.2.2.2 hrr) gX3_sendTo_X3_endRepeat ⟨⟨_, rfl⟩, ⟨rfl, rfl⟩, nyX3_endRepeat, ⟨Nat.le_of_ble_eq_true rfl, Nat.le_of_ble_eq_true rfl⟩⟩ rfl zCl3 rfl (fun h => h) rfl (Nat.le_of_ble_eq_true rfl) [0, 1, 2, 3] [4, 5, 6, 7] rfl rfl (by decide) (by decide) (by decide) ⟨Nat.le_of_ble_eq_true rfl, Nat.le_of_ble_eq_true rfl⟩ (fun v w hk => ?_)
                  obtain ⟨rfl, rfl⟩ := hk
                  refine z_fix (pc2 := 59) (st2 := [.int (iI ((F1 (d - 1))))]) (ws' := [(x, .inr (3, [.ref t1, .ref t2, .ref t3, .int (iI ((n : Int))), .int (iI ((d : Int)))])), cC G t1 60 T, cI G t2 30 F1, cI G t3 30 (zU R1 (d - 1) (R1 (d - 1) - 1)), (h, .inr (2, [.ref a1, .ref a2, .ref a3, .int (iI ((e1 : Int))), .int (iI ((k1 : Int)))])), cL G a1 24 (zrw b1), cI G a2 37 W1, cI G a3 5 S]) [4, 5, 6, 7, 0, 1, 2, 3] rfl rfl rfl (by decide) ?_
                  refine z_topi (y := ((((F1 (d - 1)).toNat) : Nat) : Int)) (by omega) ?_
                  refine z_istore_n (lv' := [(2, .int (iI (((((F1 (d - 1)).toNat) : Nat) : Int)))), (4, .int (iI ((T i)))), (0, .ref x), (1, .ref h), (3, .int (iI ((sp : Int))))]) (pc := 59) C dX3_sendTo_59 (by decide) rfl ?_
                  refine z_goto (tgt := 98) (pc := 60) C dX3_sendTo_60 (by decide) ?_
                  refine z_iinc (lv' := [(3, .int (iI (((sp : Int) + 1)))), (2, .int (iI (((((F1 (d - 1)).toNat) : Nat) : Int)))), (4, .int (iI ((T i)))), (0, .ref x), (1, .ref h)]) (pc := 98) C dX3_sendTo_98 4 rfl (by decide) rfl ?_
                  refine z_goto (tgt := 9) (pc := 101) C dX3_sendTo_101 (by decide) ?_
                  refine z_lv (lv' := [(0, .ref x), (1, .ref h), (2, .int (iI (((((F1 (d - 1)).toNat) : Nat) : Int)))), (3, .int (iI (((sp : Int) + 1))))]) [3, 4, 1, 0] rfl ?_
                  have hzm := zme_back (T := T) (i := i) (j := (F1 (d - 1)).toNat) (e := e1) g5 hk.2.2.1 (by omega)
                  exact ih (F1 (d - 1)).toNat d (sp + 1) F1 _ b1 W1 e1 k1 (by omega) (by omega) hk.2.1 (by rw [hk.2.2.2.1]; omega) (zsk_back hsk hd0 hrr) hI1 (fun r hr => hq r (zxr_back hlt c51 hrr hr))
                · refine z_aload_n (pc := 54) C dX3_sendTo_54 1 rfl ?_
                  refine z_iload_n (pc := 55) C dX3_sendTo_55 3 rfl ?_
                  refine z_callV (As := [.int (iI ((i : Int)))]) (rest := []) (wc := [(x, .inr (3, [.ref t1, .ref t2, .ref t3, .int (iI ((n : Int))), .int (iI ((d : Int)))])), cC G t1 60 T, cI G t2 30 F1, cI G t3 30 R1]) (wr := [(h, .inr (2, [.ref a1, .ref a2, .ref a3, .int (iI ((e1 : Int))), .int (iI ((k1 : Int)))])), cL G a1 24 (zrw b1), cI G a2 37 W1, cI G a3 5 S]) (fs := [.ref t1, .ref t2, .ref t3, .int (iI ((n : Int))), .int (iI ((d : Int)))]) (pc := 56) C dX3_sendTo_56 (k_X3_endRepeat_f l G x t1 t2 t3 T F1 R1 n d hT hn60 i hd0 (by omega) hk.2.2.2.2 hrr) gX3_sendTo_X3_endRepeat ⟨⟨_, rfl⟩, ⟨rfl, rfl⟩, nyX3_endRepeat, ⟨Nat.le_of_ble_eq_true rfl, Nat.le_of_ble_eq_true rfl⟩⟩ rfl zCl3 rfl (fun h => h) rfl (Nat.le_of_ble_eq_true rfl) [0, 1, 2, 3] [4, 5, 6, 7] rfl rfl (by decide) (by decide) (by decide) ⟨Nat.le_of_ble_eq_true rfl, Nat.le_of_ble_eq_true rfl⟩ (fun v w hk => ?_)
                  obtain ⟨rfl, rfl⟩ := hk
                  refine z_fix (pc2 := 59) (st2 := [.int (iI ((((i + 1) : Nat) : Int)))]) (ws' := [(x, .inr (3, [.ref t1, .ref t2, .ref t3, .int (iI ((n : Int))), .int (iI ((((d - 1) : Nat) : Int)))])), cC G t1 60 T, cI G t2 30 F1, cI G t3 30 (zU R1 (d - 1) (R1 (d - 1) - 1)), (h, .inr (2, [.ref a1, .ref a2, .ref a3, .int (iI ((e1 : Int))), .int (iI ((k1 : Int)))])), cL G a1 24 (zrw b1), cI G a2 37 W1, cI G a3 5 S]) [4, 5, 6, 7, 0, 1, 2, 3] rfl rfl rfl (by decide) ?_
                  refine z_istore_n (lv' := [(2, .int (iI ((((i + 1) : Nat) : Int)))), (4, .int (iI ((T i)))), (0, .ref x), (1, .ref h), (3, .int (iI ((sp : Int))))]) (pc := 59) C dX3_sendTo_59 (by decide) rfl ?_
                  refine z_goto (tgt := 98) (pc := 60) C dX3_sendTo_60 (by decide) ?_
                  refine z_iinc (lv' := [(3, .int (iI (((sp : Int) + 1)))), (2, .int (iI ((((i + 1) : Nat) : Int)))), (4, .int (iI ((T i)))), (0, .ref x), (1, .ref h)]) (pc := 98) C dX3_sendTo_98 4 rfl (by decide) rfl ?_
                  refine z_goto (tgt := 9) (pc := 101) C dX3_sendTo_101 (by decide) ?_
                  refine z_lv (lv' := [(0, .ref x), (1, .ref h), (2, .int (iI ((((i + 1) : Nat) : Int)))), (3, .int (iI (((sp : Int) + 1))))]) [3, 4, 1, 0] rfl ?_
                  have hzm := zme_fwd (T := T) (i := i) (j := i + 1) (e := e1) (fun q => absurd q g5) (by omega) (by omega)
                  exact ih (i + 1) (d - 1) (sp + 1) F1 _ b1 W1 e1 k1 (by omega) (by omega) g2 (by rw [g3, hd]; omega) (zsk_pop hsk) hI1 (fun r hr => hq r (zxr_pop hlt c51 hrr hr))
            · obtain ⟨g1, g2, g3, g4⟩ := ztok_c hf hlt hat c38
              refine z_iinc (lv' := [(2, .int (iI (((i : Int) + 1)))), (4, .int (iI ((T i)))), (0, .ref x), (1, .ref h), (3, .int (iI ((sp : Int))))]) (pc := 41) C dX3_sendTo_41 3 rfl (by decide) rfl ?_
              refine z_goto (tgt := 98) (pc := 44) C dX3_sendTo_44 (by decide) ?_
              refine z_iinc (lv' := [(3, .int (iI (((sp : Int) + 1)))), (2, .int (iI (((i : Int) + 1)))), (4, .int (iI ((T i)))), (0, .ref x), (1, .ref h)]) (pc := 98) C dX3_sendTo_98 4 rfl (by decide) rfl ?_
              refine z_goto (tgt := 9) (pc := 101) C dX3_sendTo_101 (by decide) ?_
              refine z_lv (lv' := [(0, .ref x), (1, .ref h), (2, .int (iI (((i : Int) + 1)))), (3, .int (iI (((sp : Int) + 1))))]) [3, 4, 1, 0] rfl ?_
              have hzm := zme_back (T := T) (i := i) (j := i + 1) (e := e1) g4 g3 (by omega)
              exact ih (i + 1) d (sp + 1) F1 R1 b1 W1 e1 k1 (by omega) (by omega) g1 (by rw [g2]; exact hd) hsk hI1 (fun r hr => hq r (zxr_comma hlt c38 hr))
  refine z_lv (lv' := [(0, .ref x), (1, .ref h), (2, .int (iI 0)), (3, .int (iI 0))]) [2, 3, 1, 0] rfl ?_
  exact L9 650001 0 0 0 F R b W e k (by omega) (by omega) ⟨by omega, Or.inl rfl⟩ rfl (zsk_0 _ _ _ _) hI (fun r hr => hr)
