/-! THE LAW, walked: words sent, looks, what is learned -/
theorem nyL_bitMany : yL_bitMany.cls ≠ "java/lang/invoke/MethodHandle" ∧ yL_bitMany.cls ≠ "java/lang/invoke/VarHandle" ∧ (parseMethodDescriptor yL_bitMany.desc).map (fun d => d.parameters.length) = some 1 := by decide +kernel
theorem nyL_runs : yL_runs.cls ≠ "java/lang/invoke/MethodHandle" ∧ yL_runs.cls ≠ "java/lang/invoke/VarHandle" ∧ (parseMethodDescriptor yL_runs.desc).map (fun d => d.parameters.length) = some 4 := by decide +kernel
theorem nyL_parity : yL_parity.cls ≠ "java/lang/invoke/MethodHandle" ∧ yL_parity.cls ≠ "java/lang/invoke/VarHandle" ∧ (parseMethodDescriptor yL_parity.desc).map (fun d => d.parameters.length) = some 2 := by decide +kernel
set_option maxHeartbeats 4000000 in
set_option maxRecDepth 100000 in
theorem k_L_sends (l : Launch) (G : ZG) (aq aw al : Nat) (q : Nat → Int) (w : Nat → Int) (c : Nat → Bool) (x : Nat) (s : ZS) (hx : x ≤ 255) (hS : zLq q c s) (hW : zLv w s) : Kt l G yL_sends wsL_sends { frames := 2, cells := 0, slots := 0, locals := 46 } 0 0 False [.int (iI ((x : Int))), .ref aq, .ref aw, .ref al] [cI G aq 7 q, cI G aw 40 w, cI G al 51 (zlr c)] (fun v9 w9 => ∃ (r : Int) (q9 : Nat → Int) (wa9 : Nat → Int) (c9 : Nat → Bool) (s9 : ZS), (zLq q9 c9 s9) ∧ (zLv wa9 s9) ∧ (r = (ySnd s x).1) ∧ (s9 = (ySnd s x).2) ∧ v9 = some (.int (iI r)) ∧ w9 = [cI G aq 7 q9, cI G aw 40 wa9, cI G al 51 (zlr c9)]) := by
  refine Kt.of (cc := cL_sends) (nL := 8) (ret := (some .int)) (own := RL) rfl (by decide +kernel) rfl (Nat.le_of_ble_eq_true rfl) ?_
  intro X Y C R0 hin
  show Z l X G Y 8 0 0 0 [(0, .int (iI ((x : Int)))), (1, .ref aq), (2, .ref aw), (3, .ref al)] [] [cI G aq 7 q, cI G aw 40 w, cI G al 51 (zlr c)]
  obtain ⟨m0, m1, m2, m3, m4, m5, m6, he, hk⟩ := zLq_r hS
  have hIs := hS.1
  obtain ⟨_, _, hbb, t0, t1, t2, t3, t4, _⟩ := id hIs
  have hnb := zbn_b (S := s.2.2.1) t3
  have hmb := zmul_b (a := zbn s.2.2.1) (m := 12) (s := s.2.2.1 0) (by omega) (by omega) t0
  have hps := zps_tk (S := s.2.2.1) s.2.2.2.1 t3 t0
  have htk := ztk_b t3 t0
  refine z_aload_n (pc := 0) C dL_sends_0 1 rfl ?_
  refine z_iconst (pc := 1) C dL_sends_1 ?_
  refine z_iald (pc := 2) C dL_sends_2 0 rfl (5) (rfl) (by omega) (by decide) ?_
  refine z_topi (y := ((s.2.2.2.1 : Nat) : Int)) (m5) ?_
  refine z_istore (lv' := [(4, .int (iI (((s.2.2.2.1 : Nat) : Int)))), (0, .int (iI ((x : Int)))), (1, .ref aq), (2, .ref aw), (3, .ref al)]) (pc := 3) C dL_sends_3 (by decide) rfl ?_
  refine z_aload_n (pc := 5) C dL_sends_5 2 rfl ?_
  refine z_callS (As := [.ref aq]) (rest := []) (wc := [cI G aq 7 q]) (wr := [cI G aw 40 w, cI G al 51 (zlr c)]) (pc := 6) C dL_sends_6 (k_L_bitMany l G aq q ⟨by omega, by omega⟩ ⟨by omega, by omega⟩) gL_sends_L_bitMany ⟨⟨_, rfl⟩, ⟨rfl, rfl⟩, nyL_bitMany, ⟨Nat.le_of_ble_eq_true rfl, Nat.le_of_ble_eq_true rfl⟩⟩ (fun h => h) rfl (Nat.le_of_ble_eq_true rfl) [0] [1, 2] rfl rfl (by decide) (by decide) (by decide) ⟨Nat.le_of_ble_eq_true rfl, Nat.le_of_ble_eq_true rfl⟩ (fun v w hk => ?_)
  obtain ⟨rfl, rfl⟩ := hk
  refine z_fix (pc2 := 9) (st2 := [.int (iI ((zbn q)))]) (ws' := [cI G aq 7 q, cI G aw 40 w, cI G al 51 (zlr c)]) [2, 0, 1] rfl rfl rfl (by decide) ?_
  refine z_topi (y := ((((zbn s.2.2.1).toNat) : Nat) : Int)) (by rw [Int.toNat_of_nonneg (by omega)]; unfold zbn; rw [m2.2.2, m3.2.2]) ?_
  refine z_istore (lv' := [(5, .int (iI (((((zbn s.2.2.1).toNat) : Nat) : Int)))), (4, .int (iI (((s.2.2.2.1 : Nat) : Int)))), (0, .int (iI ((x : Int)))), (1, .ref aq), (2, .ref aw), (3, .ref al)]) (pc := 9) C dL_sends_9 (by decide) rfl ?_
  refine z_iload (pc := 11) C dL_sends_11 1 rfl ?_
  refine z_iload (pc := 13) C dL_sends_13 0 rfl ?_
  refine z_aload_n (pc := 15) C dL_sends_15 3 rfl ?_
  refine z_iconst (pc := 16) C dL_sends_16 ?_
  refine z_iald (pc := 17) C dL_sends_17 0 rfl (0) (rfl) (by omega) (by decide) ?_
  refine z_imul (pc := 18) C dL_sends_18 ?_
  refine z_topi (y := (zbn s.2.2.1 * s.2.2.1 0)) (by rw [Int.toNat_of_nonneg (by omega), m0.2.2]) ?_
  refine z_iconst (pc := 19) C dL_sends_19 ?_
  refine z_ishr (pc := 20) C dL_sends_20 ⟨hmb.1, by omega⟩ (by decide) ?_
  refine z_topi (y := (ztk s.2.2.1)) (by unfold ztk; exact congrArg (fun z => zbn s.2.2.1 * s.2.2.1 0 / z) (show (2 : Int) ^ (4 : Int).toNat = 16 by decide)) ?_
  refine z_iadd (pc := 21) C dL_sends_21 ?_
  refine z_sipush (pc := 22) C dL_sends_22 (by decide +kernel) ?_
  refine z_icmp_le (tgt := 31) (pc := 25) C dL_sends_25 (by decide) ⟨by omega, by omega⟩ (by decide) (fun c25 => ?_) (fun c25 => ?_)
  · have hy : ySnd s x = (((zSw s x).2.2.2.1 : Int), zSw s x) := if_neg (by omega)
    have hp500 : (zps s.2.2.1 s.2.2.2.1 ((zbn s.2.2.1).toNat)) ≤ 1500 := by rw [hps]; omega
    refine z_iconst (pc := 31) C dL_sends_31 ?_
    refine z_istore (lv' := [(6, .int (iI 0)), (5, .int (iI (((((zbn s.2.2.1).toNat) : Nat) : Int)))), (4, .int (iI (((s.2.2.2.1 : Nat) : Int)))), (0, .int (iI ((x : Int)))), (1, .ref aq), (2, .ref aw), (3, .ref al)]) (pc := 32) C dL_sends_32 (by decide) rfl ?_
    have L34 : ∀ (n : Nat) (i : Nat) (q1 : Nat → Int) (c1 : Nat → Bool), ((zbn s.2.2.1).toNat) < i + n → i ≤ ((zbn s.2.2.1).toNat) → (∀ j, j < 5 → q1 j = q j) → q1 6 = q 6 → q1 5 = (((zps s.2.2.1 s.2.2.2.1 i) : Nat) : Int) → (∀ t, t < (zps s.2.2.1 s.2.2.2.1 i) → c1 t = zaw s.1 s.2.2.1 s.2.2.2.1 x i t) → Z l X G Y 8 0 0 34 [(0, .int (iI ((x : Int)))), (1, .ref aq), (2, .ref aw), (3, .ref al), (4, .int (iI (((s.2.2.2.1 : Nat) : Int)))), (5, .int (iI (((((zbn s.2.2.1).toNat) : Nat) : Int)))), (6, .int (iI ((i : Int))))] [] [cI G aq 7 q1, cI G aw 40 w, cI G al 51 (zlr c1)] := by
      intro n
      induction n with
      | zero => intro i q1 c1 hn hi hq hq6 h5 hc; exact absurd hn (by omega)
      | succ n ih =>
        intro i q1 c1 hn hi hq hq6 h5 hc
        refine z_iload (pc := 34) C dL_sends_34 6 rfl ?_
        refine z_iload (pc := 36) C dL_sends_36 5 rfl ?_
        refine z_icmp_ge (tgt := 123) (pc := 38) C dL_sends_38 (by decide) ⟨by omega, by omega⟩ ⟨by omega, by omega⟩ (fun c38 => ?_) (fun c38 => ?_)
        · obtain rfl : i = ((zbn s.2.2.1).toNat) := by omega
          refine z_aload_n (pc := 123) C dL_sends_123 2 rfl ?_
          refine z_aload_n (pc := 124) C dL_sends_124 1 rfl ?_
          refine z_bipush (pc := 125) C dL_sends_125 (by decide +kernel) ?_
          refine z_iald (pc := 127) C dL_sends_127 0 rfl (6) (rfl) (by omega) (by decide) ?_
          refine z_topi (y := ((s.2.2.2.2 : Nat) : Int)) (hq6.trans m6) ?_
          refine z_iload_n (pc := 128) C dL_sends_128 0 rfl ?_
          refine z_iast (ws' := [cI G aq 7 q1, cI G aw 40 (zU w s.2.2.2.2 (x : Int)), cI G al 51 (zlr c1)]) (pc := 129) C dL_sends_129 1 rfl (s.2.2.2.2) (by omega) (by omega) (by decide) rfl ?_
          refine z_aload_n (pc := 130) C dL_sends_130 1 rfl ?_
          refine z_bipush (pc := 131) C dL_sends_131 (by decide +kernel) ?_
          refine z_dup2 (pc := 133) C dL_sends_133 rfl rfl ?_
          refine z_iald (pc := 134) C dL_sends_134 0 rfl (6) (rfl) (by omega) (by decide) ?_
          refine z_topi (y := ((s.2.2.2.2 : Nat) : Int)) (hq6.trans m6) ?_
          refine z_iconst (pc := 135) C dL_sends_135 ?_
          refine z_iadd (pc := 136) C dL_sends_136 ?_
          refine z_iast (ws' := [cI G aq 7 (zU q1 6 (((s.2.2.2.2 : Nat) : Int) + 1)), cI G aw 40 (zU w s.2.2.2.2 (x : Int)), cI G al 51 (zlr c1)]) (pc := 137) C dL_sends_137 0 rfl (6) (rfl) (by omega) (by decide) rfl ?_
          refine z_aload_n (pc := 138) C dL_sends_138 1 rfl ?_
          refine z_iconst (pc := 139) C dL_sends_139 ?_
          refine z_iald (pc := 140) C dL_sends_140 0 rfl (5) (rfl) (by omega) (by decide) ?_
          refine z_topi (y := (ySnd s x).1) (by rw [hy, zU_n (by decide), h5, hps]; rfl) ?_
          exact z_iret (pc := 141) C R0 dL_sends_141 (⟨_, _, _, _, _, zLq_word (v6 := ((s.2.2.2.2 : Nat) : Int) + 1) hS hx (by omega) hq h5 (by omega) hc, zLv_word hW rfl, rfl, by rw [hy], rfl, rfl⟩)
        · have hi11 : i < 11 ∨ (i < 12 ∧ ¬ s.2.2.1 2 = 0) := by
            have hzb : zbn s.2.2.1 = 9 + (if s.2.2.1 2 = 0 then 0 else 1) + s.2.2.1 3 := rfl
            by_cases q2 : s.2.2.1 2 = 0
            · rw [if_pos q2] at hzb; omega
            · rw [if_neg q2] at hzb; exact Or.inr ⟨by omega, q2⟩
          have e2 := (hq 2 (by decide)).trans m2.2.2
          have e0 := (hq 0 (by decide)).trans m0.2.2
          refine z_iload (pc := 41) C dL_sends_41 6 rfl ?_
          refine z_if_ne (tgt := 50) (pc := 43) C dL_sends_43 (by decide) ⟨by omega, by omega⟩ (fun c43 => ?_) (fun c43 => ?_)
          · refine z_iload (pc := 50) C dL_sends_50 6 rfl ?_
            refine z_bipush (pc := 52) C dL_sends_52 (by decide +kernel) ?_
            refine z_icmp_ge (tgt := 68) (pc := 54) C dL_sends_54 (by decide) ⟨by omega, by omega⟩ (by decide) (fun c54 => ?_) (fun c54 => ?_)
            · refine z_iload (pc := 68) C dL_sends_68 6 rfl ?_
              refine z_bipush (pc := 70) C dL_sends_70 (by decide +kernel) ?_
              refine z_icmp_ne (tgt := 89) (pc := 72) C dL_sends_72 (by decide) ⟨by omega, by omega⟩ (by decide) (fun c72 => ?_) (fun c72 => ?_)
              · refine z_iconst (pc := 89) C dL_sends_89 ?_
                refine z_topi (y := (zB (zbt s.2.2.1 x i))) (by rw [← zlx_t s.2.2.1 hx hi11]; exact (zlx_1 (by omega) (fun q => by omega)).symm) ?_
                refine z_istore (lv' := [(7, .int (iI ((zB (zbt s.2.2.1 x i))))), (0, .int (iI ((x : Int)))), (1, .ref aq), (2, .ref aw), (3, .ref al), (4, .int (iI (((s.2.2.2.1 : Nat) : Int)))), (5, .int (iI (((((zbn s.2.2.1).toNat) : Nat) : Int)))), (6, .int (iI ((i : Int))))]) (pc := 90) C dL_sends_90 (by decide) rfl ?_
                refine z_iload (pc := 92) C dL_sends_92 0 rfl ?_
                refine z_iload (pc := 94) C dL_sends_94 5 rfl ?_
                refine z_iload (pc := 96) C dL_sends_96 7 rfl ?_
                refine z_iconst (pc := 98) C dL_sends_98 ?_
                refine z_iadd (pc := 99) C dL_sends_99 ?_
                refine z_aload_n (pc := 100) C dL_sends_100 2 rfl ?_
                refine z_iconst (pc := 101) C dL_sends_101 ?_
                refine z_iald (pc := 102) C dL_sends_102 0 rfl (0) (rfl) (by omega) (by decide) ?_
                refine z_imul (pc := 103) C dL_sends_103 ?_
                have hmi := zmul_b (a := ((i + 1 : Nat) : Int)) (m := 12) (s := s.2.2.1 0) (by omega) (by omega) t0
                refine z_topi (y := (((i + 1 : Nat) : Int) * s.2.2.1 0)) (by rw [e0]; rfl) ?_
                refine z_iconst (pc := 104) C dL_sends_104 ?_
                refine z_ishr (pc := 105) C dL_sends_105 ⟨hmi.1, by omega⟩ (by decide) ?_
                refine z_iadd (pc := 106) C dL_sends_106 ?_
                refine z_topi (y := (((zps s.2.2.1 s.2.2.2.1 (i + 1)) : Nat) : Int)) (by rw [zps_int _ _ (by omega)]; exact congrArg (fun z => (s.2.2.2.1 : Int) + ((i + 1 : Nat) : Int) * s.2.2.1 0 / z) (show (2 : Int) ^ (4 : Int).toNat = 16 by decide)) ?_
                refine z_aload_n (pc := 107) C dL_sends_107 2 rfl ?_
                refine z_iconst (pc := 108) C dL_sends_108 ?_
                refine z_iald (pc := 109) C dL_sends_109 0 rfl (5) (rfl) (by omega) (by decide) ?_
                refine z_topi (y := (((zps s.2.2.1 s.2.2.2.1 i) : Nat) : Int)) (h5) ?_
                refine z_isub (pc := 110) C dL_sends_110 ?_
                have hmo := zps_mono s.2.2.1 s.2.2.2.1 (show i ≤ i + 1 by omega)
                have hmN := zps_mono s.2.2.1 s.2.2.2.1 (show i + 1 ≤ ((zbn s.2.2.1).toNat) by omega)
                refine z_topi (y := ((((zps s.2.2.1 s.2.2.2.1 (i + 1)) - (zps s.2.2.1 s.2.2.2.1 i)) : Nat) : Int)) (by omega) ?_
                refine z_aload_n (pc := 111) C dL_sends_111 2 rfl ?_
                refine z_aload_n (pc := 112) C dL_sends_112 4 rfl ?_
                refine z_callS (As := [.int (iI ((zB (zbt s.2.2.1 x i)))), .int (iI (((((zps s.2.2.1 s.2.2.2.1 (i + 1)) - (zps s.2.2.1 s.2.2.2.1 i)) : Nat) : Int))), .ref aq, .ref al]) (rest := []) (wc := [cI G aq 7 q1, cI G al 51 (zlr c1)]) (wr := [cI G aw 40 w]) (pc := 113) C dL_sends_113 (k_L_runs l G aq al q1 c1 (zB (zbt s.2.2.1 x i)) ((zps s.2.2.1 s.2.2.2.1 (i + 1)) - (zps s.2.2.1 s.2.2.2.1 i)) (zps s.2.2.1 s.2.2.2.1 i) (zB_b _) h5 (by omega)) gL_sends_L_runs ⟨⟨_, rfl⟩, ⟨rfl, rfl⟩, nyL_runs, ⟨Nat.le_of_ble_eq_true rfl, Nat.le_of_ble_eq_true rfl⟩⟩ (fun h => h) rfl (Nat.le_of_ble_eq_true rfl) [0, 2] [1] rfl rfl (by decide) (by decide) (by decide) ⟨Nat.le_of_ble_eq_true rfl, Nat.le_of_ble_eq_true rfl⟩ (fun v w hk => ?_)
                obtain ⟨rfl, rfl⟩ := hk
                refine z_fix (pc2 := 116) (st2 := [.int (iI (((((zps s.2.2.1 s.2.2.2.1 i) + ((zps s.2.2.1 s.2.2.2.1 (i + 1)) - (zps s.2.2.1 s.2.2.2.1 i))) : Nat) : Int)))]) (ws' := [cI G aq 7 (zU q1 5 (((zps s.2.2.1 s.2.2.2.1 i) + ((zps s.2.2.1 s.2.2.2.1 (i + 1)) - (zps s.2.2.1 s.2.2.2.1 i)) : Nat) : Int)), cI G aw 40 w, cI G al 51 (zlr (zst0 c1 (zps s.2.2.1 s.2.2.2.1 i) ((zps s.2.2.1 s.2.2.2.1 (i + 1)) - (zps s.2.2.1 s.2.2.2.1 i)) (decide (((zB (zbt s.2.2.1 x i)) : Int) = 1))))]) [1, 0, 2] rfl rfl rfl (by decide) ?_
                refine z_pop (pc := 116) C dL_sends_116 rfl ?_
                refine z_iinc (lv' := [(6, .int (iI (((i : Int) + 1)))), (7, .int (iI ((zB (zbt s.2.2.1 x i))))), (0, .int (iI ((x : Int)))), (1, .ref aq), (2, .ref aw), (3, .ref al), (4, .int (iI (((s.2.2.2.1 : Nat) : Int)))), (5, .int (iI (((((zbn s.2.2.1).toNat) : Nat) : Int))))]) (pc := 117) C dL_sends_117 7 rfl (by decide) rfl ?_
                refine z_goto (tgt := 34) (pc := 120) C dL_sends_120 (by decide) ?_
                refine z_lv (lv' := [(0, .int (iI ((x : Int)))), (1, .ref aq), (2, .ref aw), (3, .ref al), (4, .int (iI (((s.2.2.2.1 : Nat) : Int)))), (5, .int (iI (((((zbn s.2.2.1).toNat) : Nat) : Int)))), (6, .int (iI (((i : Int) + 1))))]) [2, 3, 4, 5, 6, 7, 0] rfl ?_
                exact ih (i + 1) _ _ (by omega) (by omega) (fun j hj => (zU_n (by omega)).trans (hq j hj)) ((zU_n (by decide)).trans hq6) (zU_s.trans (by omega)) (zaw_next hbb rfl hc)
              · refine z_aload_n (pc := 75) C dL_sends_75 1 rfl ?_
                refine z_iconst (pc := 76) C dL_sends_76 ?_
                refine z_iald (pc := 77) C dL_sends_77 0 rfl (2) (rfl) (by omega) (by decide) ?_
                refine z_if_le (tgt := 89) (pc := 78) C dL_sends_78 (by decide) ⟨by omega, by omega⟩ (fun c78 => ?_) (fun c78 => ?_)
                · refine z_iconst (pc := 89) C dL_sends_89 ?_
                  refine z_topi (y := (zB (zbt s.2.2.1 x i))) (by rw [← zlx_t s.2.2.1 hx hi11]; exact (zlx_1 (by omega) (fun q => by omega)).symm) ?_
                  refine z_istore (lv' := [(7, .int (iI ((zB (zbt s.2.2.1 x i))))), (0, .int (iI ((x : Int)))), (1, .ref aq), (2, .ref aw), (3, .ref al), (4, .int (iI (((s.2.2.2.1 : Nat) : Int)))), (5, .int (iI (((((zbn s.2.2.1).toNat) : Nat) : Int)))), (6, .int (iI ((i : Int))))]) (pc := 90) C dL_sends_90 (by decide) rfl ?_
                  refine z_iload (pc := 92) C dL_sends_92 0 rfl ?_
                  refine z_iload (pc := 94) C dL_sends_94 5 rfl ?_
                  refine z_iload (pc := 96) C dL_sends_96 7 rfl ?_
                  refine z_iconst (pc := 98) C dL_sends_98 ?_
                  refine z_iadd (pc := 99) C dL_sends_99 ?_
                  refine z_aload_n (pc := 100) C dL_sends_100 2 rfl ?_
                  refine z_iconst (pc := 101) C dL_sends_101 ?_
                  refine z_iald (pc := 102) C dL_sends_102 0 rfl (0) (rfl) (by omega) (by decide) ?_
                  refine z_imul (pc := 103) C dL_sends_103 ?_
                  have hmi := zmul_b (a := ((i + 1 : Nat) : Int)) (m := 12) (s := s.2.2.1 0) (by omega) (by omega) t0
                  refine z_topi (y := (((i + 1 : Nat) : Int) * s.2.2.1 0)) (by rw [e0]; rfl) ?_
                  refine z_iconst (pc := 104) C dL_sends_104 ?_
                  refine z_ishr (pc := 105) C dL_sends_105 ⟨hmi.1, by omega⟩ (by decide) ?_
                  refine z_iadd (pc := 106) C dL_sends_106 ?_
                  refine z_topi (y := (((zps s.2.2.1 s.2.2.2.1 (i + 1)) : Nat) : Int)) (by rw [zps_int _ _ (by omega)]; exact congrArg (fun z => (s.2.2.2.1 : Int) + ((i + 1 : Nat) : Int) * s.2.2.1 0 / z) (show (2 : Int) ^ (4 : Int).toNat = 16 by decide)) ?_
                  refine z_aload_n (pc := 107) C dL_sends_107 2 rfl ?_
                  refine z_iconst (pc := 108) C dL_sends_108 ?_
                  refine z_iald (pc := 109) C dL_sends_109 0 rfl (5) (rfl) (by omega) (by decide) ?_
                  refine z_topi (y := (((zps s.2.2.1 s.2.2.2.1 i) : Nat) : Int)) (h5) ?_
                  refine z_isub (pc := 110) C dL_sends_110 ?_
                  have hmo := zps_mono s.2.2.1 s.2.2.2.1 (show i ≤ i + 1 by omega)
                  have hmN := zps_mono s.2.2.1 s.2.2.2.1 (show i + 1 ≤ ((zbn s.2.2.1).toNat) by omega)
                  refine z_topi (y := ((((zps s.2.2.1 s.2.2.2.1 (i + 1)) - (zps s.2.2.1 s.2.2.2.1 i)) : Nat) : Int)) (by omega) ?_
                  refine z_aload_n (pc := 111) C dL_sends_111 2 rfl ?_
                  refine z_aload_n (pc := 112) C dL_sends_112 4 rfl ?_
                  refine z_callS (As := [.int (iI ((zB (zbt s.2.2.1 x i)))), .int (iI (((((zps s.2.2.1 s.2.2.2.1 (i + 1)) - (zps s.2.2.1 s.2.2.2.1 i)) : Nat) : Int))), .ref aq, .ref al]) (rest := []) (wc := [cI G aq 7 q1, cI G al 51 (zlr c1)]) (wr := [cI G aw 40 w]) (pc := 113) C dL_sends_113 (k_L_runs l G aq al q1 c1 (zB (zbt s.2.2.1 x i)) ((zps s.2.2.1 s.2.2.2.1 (i + 1)) - (zps s.2.2.1 s.2.2.2.1 i)) (zps s.2.2.1 s.2.2.2.1 i) (zB_b _) h5 (by omega)) gL_sends_L_runs ⟨⟨_, rfl⟩, ⟨rfl, rfl⟩, nyL_runs, ⟨Nat.le_of_ble_eq_true rfl, Nat.le_of_ble_eq_true rfl⟩⟩ (fun h => h) rfl (Nat.le_of_ble_eq_true rfl) [0, 2] [1] rfl rfl (by decide) (by decide) (by decide) ⟨Nat.le_of_ble_eq_true rfl, Nat.le_of_ble_eq_true rfl⟩ (fun v w hk => ?_)
                  obtain ⟨rfl, rfl⟩ := hk
                  refine z_fix (pc2 := 116) (st2 := [.int (iI (((((zps s.2.2.1 s.2.2.2.1 i) + ((zps s.2.2.1 s.2.2.2.1 (i + 1)) - (zps s.2.2.1 s.2.2.2.1 i))) : Nat) : Int)))]) (ws' := [cI G aq 7 (zU q1 5 (((zps s.2.2.1 s.2.2.2.1 i) + ((zps s.2.2.1 s.2.2.2.1 (i + 1)) - (zps s.2.2.1 s.2.2.2.1 i)) : Nat) : Int)), cI G aw 40 w, cI G al 51 (zlr (zst0 c1 (zps s.2.2.1 s.2.2.2.1 i) ((zps s.2.2.1 s.2.2.2.1 (i + 1)) - (zps s.2.2.1 s.2.2.2.1 i)) (decide (((zB (zbt s.2.2.1 x i)) : Int) = 1))))]) [1, 0, 2] rfl rfl rfl (by decide) ?_
                  refine z_pop (pc := 116) C dL_sends_116 rfl ?_
                  refine z_iinc (lv' := [(6, .int (iI (((i : Int) + 1)))), (7, .int (iI ((zB (zbt s.2.2.1 x i))))), (0, .int (iI ((x : Int)))), (1, .ref aq), (2, .ref aw), (3, .ref al), (4, .int (iI (((s.2.2.2.1 : Nat) : Int)))), (5, .int (iI (((((zbn s.2.2.1).toNat) : Nat) : Int))))]) (pc := 117) C dL_sends_117 7 rfl (by decide) rfl ?_
                  refine z_goto (tgt := 34) (pc := 120) C dL_sends_120 (by decide) ?_
                  refine z_lv (lv' := [(0, .int (iI ((x : Int)))), (1, .ref aq), (2, .ref aw), (3, .ref al), (4, .int (iI (((s.2.2.2.1 : Nat) : Int)))), (5, .int (iI (((((zbn s.2.2.1).toNat) : Nat) : Int)))), (6, .int (iI (((i : Int) + 1))))]) [2, 3, 4, 5, 6, 7, 0] rfl ?_
                  exact ih (i + 1) _ _ (by omega) (by omega) (fun j hj => (zU_n (by omega)).trans (hq j hj)) ((zU_n (by decide)).trans hq6) (zU_s.trans (by omega)) (zaw_next hbb rfl hc)
                · refine z_iload_n (pc := 81) C dL_sends_81 0 rfl ?_
                  refine z_aload_n (pc := 82) C dL_sends_82 1 rfl ?_
                  refine z_callS (As := [.int (iI ((x : Int))), .ref aq]) (rest := []) (wc := [cI G aq 7 q1]) (wr := [cI G aw 40 w, cI G al 51 (zlr c1)]) (pc := 83) C dL_sends_83 (k_L_parity l G aq q1 x hx ⟨by omega, by omega⟩) gL_sends_L_parity ⟨⟨_, rfl⟩, ⟨rfl, rfl⟩, nyL_parity, ⟨Nat.le_of_ble_eq_true rfl, Nat.le_of_ble_eq_true rfl⟩⟩ (fun h => h) rfl (Nat.le_of_ble_eq_true rfl) [0] [1, 2] rfl rfl (by decide) (by decide) (by decide) ⟨Nat.le_of_ble_eq_true rfl, Nat.le_of_ble_eq_true rfl⟩ (fun v w hk => ?_)
                  obtain ⟨rfl, rfl⟩ := hk
                  refine z_fix (pc2 := 86) (st2 := [.int (iI ((zpar (q1 2) x)))]) (ws' := [cI G aq 7 q1, cI G aw 40 w, cI G al 51 (zlr c1)]) [2, 0, 1] rfl rfl rfl (by decide) ?_
                  refine z_goto (tgt := 90) (pc := 86) C dL_sends_86 (by decide) ?_
                  refine z_topi (y := (zB (zbt s.2.2.1 x i))) (by rw [← zlx_t s.2.2.1 hx hi11, zlx_p (by omega) (by omega), e2]) ?_
                  refine z_istore (lv' := [(7, .int (iI ((zB (zbt s.2.2.1 x i))))), (0, .int (iI ((x : Int)))), (1, .ref aq), (2, .ref aw), (3, .ref al), (4, .int (iI (((s.2.2.2.1 : Nat) : Int)))), (5, .int (iI (((((zbn s.2.2.1).toNat) : Nat) : Int)))), (6, .int (iI ((i : Int))))]) (pc := 90) C dL_sends_90 (by decide) rfl ?_
                  refine z_iload (pc := 92) C dL_sends_92 0 rfl ?_
                  refine z_iload (pc := 94) C dL_sends_94 5 rfl ?_
                  refine z_iload (pc := 96) C dL_sends_96 7 rfl ?_
                  refine z_iconst (pc := 98) C dL_sends_98 ?_
                  refine z_iadd (pc := 99) C dL_sends_99 ?_
                  refine z_aload_n (pc := 100) C dL_sends_100 2 rfl ?_
                  refine z_iconst (pc := 101) C dL_sends_101 ?_
                  refine z_iald (pc := 102) C dL_sends_102 0 rfl (0) (rfl) (by omega) (by decide) ?_
                  refine z_imul (pc := 103) C dL_sends_103 ?_
                  have hmi := zmul_b (a := ((i + 1 : Nat) : Int)) (m := 12) (s := s.2.2.1 0) (by omega) (by omega) t0
                  refine z_topi (y := (((i + 1 : Nat) : Int) * s.2.2.1 0)) (by rw [e0]; rfl) ?_
                  refine z_iconst (pc := 104) C dL_sends_104 ?_
                  refine z_ishr (pc := 105) C dL_sends_105 ⟨hmi.1, by omega⟩ (by decide) ?_
                  refine z_iadd (pc := 106) C dL_sends_106 ?_
                  refine z_topi (y := (((zps s.2.2.1 s.2.2.2.1 (i + 1)) : Nat) : Int)) (by rw [zps_int _ _ (by omega)]; exact congrArg (fun z => (s.2.2.2.1 : Int) + ((i + 1 : Nat) : Int) * s.2.2.1 0 / z) (show (2 : Int) ^ (4 : Int).toNat = 16 by decide)) ?_
                  refine z_aload_n (pc := 107) C dL_sends_107 2 rfl ?_
                  refine z_iconst (pc := 108) C dL_sends_108 ?_
                  refine z_iald (pc := 109) C dL_sends_109 0 rfl (5) (rfl) (by omega) (by decide) ?_
                  refine z_topi (y := (((zps s.2.2.1 s.2.2.2.1 i) : Nat) : Int)) (h5) ?_
                  refine z_isub (pc := 110) C dL_sends_110 ?_
                  have hmo := zps_mono s.2.2.1 s.2.2.2.1 (show i ≤ i + 1 by omega)
                  have hmN := zps_mono s.2.2.1 s.2.2.2.1 (show i + 1 ≤ ((zbn s.2.2.1).toNat) by omega)
                  refine z_topi (y := ((((zps s.2.2.1 s.2.2.2.1 (i + 1)) - (zps s.2.2.1 s.2.2.2.1 i)) : Nat) : Int)) (by omega) ?_
                  refine z_aload_n (pc := 111) C dL_sends_111 2 rfl ?_
                  refine z_aload_n (pc := 112) C dL_sends_112 4 rfl ?_
                  refine z_callS (As := [.int (iI ((zB (zbt s.2.2.1 x i)))), .int (iI (((((zps s.2.2.1 s.2.2.2.1 (i + 1)) - (zps s.2.2.1 s.2.2.2.1 i)) : Nat) : Int))), .ref aq, .ref al]) (rest := []) (wc := [cI G aq 7 q1, cI G al 51 (zlr c1)]) (wr := [cI G aw 40 w]) (pc := 113) C dL_sends_113 (k_L_runs l G aq al q1 c1 (zB (zbt s.2.2.1 x i)) ((zps s.2.2.1 s.2.2.2.1 (i + 1)) - (zps s.2.2.1 s.2.2.2.1 i)) (zps s.2.2.1 s.2.2.2.1 i) (zB_b _) h5 (by omega)) gL_sends_L_runs ⟨⟨_, rfl⟩, ⟨rfl, rfl⟩, nyL_runs, ⟨Nat.le_of_ble_eq_true rfl, Nat.le_of_ble_eq_true rfl⟩⟩ (fun h => h) rfl (Nat.le_of_ble_eq_true rfl) [0, 2] [1] rfl rfl (by decide) (by decide) (by decide) ⟨Nat.le_of_ble_eq_true rfl, Nat.le_of_ble_eq_true rfl⟩ (fun v w hk => ?_)
                  obtain ⟨rfl, rfl⟩ := hk
                  refine z_fix (pc2 := 116) (st2 := [.int (iI (((((zps s.2.2.1 s.2.2.2.1 i) + ((zps s.2.2.1 s.2.2.2.1 (i + 1)) - (zps s.2.2.1 s.2.2.2.1 i))) : Nat) : Int)))]) (ws' := [cI G aq 7 (zU q1 5 (((zps s.2.2.1 s.2.2.2.1 i) + ((zps s.2.2.1 s.2.2.2.1 (i + 1)) - (zps s.2.2.1 s.2.2.2.1 i)) : Nat) : Int)), cI G aw 40 w, cI G al 51 (zlr (zst0 c1 (zps s.2.2.1 s.2.2.2.1 i) ((zps s.2.2.1 s.2.2.2.1 (i + 1)) - (zps s.2.2.1 s.2.2.2.1 i)) (decide (((zB (zbt s.2.2.1 x i)) : Int) = 1))))]) [1, 0, 2] rfl rfl rfl (by decide) ?_
                  refine z_pop (pc := 116) C dL_sends_116 rfl ?_
                  refine z_iinc (lv' := [(6, .int (iI (((i : Int) + 1)))), (7, .int (iI ((zB (zbt s.2.2.1 x i))))), (0, .int (iI ((x : Int)))), (1, .ref aq), (2, .ref aw), (3, .ref al), (4, .int (iI (((s.2.2.2.1 : Nat) : Int)))), (5, .int (iI (((((zbn s.2.2.1).toNat) : Nat) : Int))))]) (pc := 117) C dL_sends_117 7 rfl (by decide) rfl ?_
                  refine z_goto (tgt := 34) (pc := 120) C dL_sends_120 (by decide) ?_
                  refine z_lv (lv' := [(0, .int (iI ((x : Int)))), (1, .ref aq), (2, .ref aw), (3, .ref al), (4, .int (iI (((s.2.2.2.1 : Nat) : Int)))), (5, .int (iI (((((zbn s.2.2.1).toNat) : Nat) : Int)))), (6, .int (iI (((i : Int) + 1))))]) [2, 3, 4, 5, 6, 7, 0] rfl ?_
                  exact ih (i + 1) _ _ (by omega) (by omega) (fun j hj => (zU_n (by omega)).trans (hq j hj)) ((zU_n (by decide)).trans hq6) (zU_s.trans (by omega)) (zaw_next hbb rfl hc)
            · refine z_iload_n (pc := 57) C dL_sends_57 0 rfl ?_
              refine z_iload (pc := 58) C dL_sends_58 6 rfl ?_
              refine z_iconst (pc := 60) C dL_sends_60 ?_
              refine z_isub (pc := 61) C dL_sends_61 ?_
              refine z_topi (y := (((i - 1) : Nat) : Int)) (by omega) ?_
              refine z_ishr (pc := 62) C dL_sends_62 ⟨by omega, by omega⟩ ⟨by omega, by omega⟩ ?_
              refine z_topi (y := (((x / 2 ^ (i - 1)) : Nat) : Int)) (by rw [Int.toNat_natCast]; exact (zdiv_pow x (i - 1)).symm ▸ rfl) ?_
              refine z_iconst (pc := 63) C dL_sends_63 ?_
              have hdv : x / 2 ^ (i - 1) ≤ x := Nat.div_le_self _ _
              refine z_iand (pc := 64) C dL_sends_64 ⟨Int.natCast_nonneg _, Int.le_trans (Int.ofNat_le.mpr hdv) (by omega)⟩ (by decide) ?_
              refine z_topi (y := (((x / 2 ^ (i - 1) % 2) : Nat) : Int)) (by rw [zand1 (Int.natCast_nonneg _)]; exact (Int.natCast_emod _ _).symm) ?_
              refine z_goto (tgt := 90) (pc := 65) C dL_sends_65 (by decide) ?_
              refine z_topi (y := (zB (zbt s.2.2.1 x i))) (by rw [← zlx_t s.2.2.1 hx hi11, zlx_w (by omega) (by omega)]) ?_
              refine z_istore (lv' := [(7, .int (iI ((zB (zbt s.2.2.1 x i))))), (0, .int (iI ((x : Int)))), (1, .ref aq), (2, .ref aw), (3, .ref al), (4, .int (iI (((s.2.2.2.1 : Nat) : Int)))), (5, .int (iI (((((zbn s.2.2.1).toNat) : Nat) : Int)))), (6, .int (iI ((i : Int))))]) (pc := 90) C dL_sends_90 (by decide) rfl ?_
              refine z_iload (pc := 92) C dL_sends_92 0 rfl ?_
              refine z_iload (pc := 94) C dL_sends_94 5 rfl ?_
              refine z_iload (pc := 96) C dL_sends_96 7 rfl ?_
              refine z_iconst (pc := 98) C dL_sends_98 ?_
              refine z_iadd (pc := 99) C dL_sends_99 ?_
              refine z_aload_n (pc := 100) C dL_sends_100 2 rfl ?_
              refine z_iconst (pc := 101) C dL_sends_101 ?_
              refine z_iald (pc := 102) C dL_sends_102 0 rfl (0) (rfl) (by omega) (by decide) ?_
              refine z_imul (pc := 103) C dL_sends_103 ?_
              have hmi := zmul_b (a := ((i + 1 : Nat) : Int)) (m := 12) (s := s.2.2.1 0) (by omega) (by omega) t0
              refine z_topi (y := (((i + 1 : Nat) : Int) * s.2.2.1 0)) (by rw [e0]; rfl) ?_
              refine z_iconst (pc := 104) C dL_sends_104 ?_
              refine z_ishr (pc := 105) C dL_sends_105 ⟨hmi.1, by omega⟩ (by decide) ?_
              refine z_iadd (pc := 106) C dL_sends_106 ?_
              refine z_topi (y := (((zps s.2.2.1 s.2.2.2.1 (i + 1)) : Nat) : Int)) (by rw [zps_int _ _ (by omega)]; exact congrArg (fun z => (s.2.2.2.1 : Int) + ((i + 1 : Nat) : Int) * s.2.2.1 0 / z) (show (2 : Int) ^ (4 : Int).toNat = 16 by decide)) ?_
              refine z_aload_n (pc := 107) C dL_sends_107 2 rfl ?_
              refine z_iconst (pc := 108) C dL_sends_108 ?_
              refine z_iald (pc := 109) C dL_sends_109 0 rfl (5) (rfl) (by omega) (by decide) ?_
              refine z_topi (y := (((zps s.2.2.1 s.2.2.2.1 i) : Nat) : Int)) (h5) ?_
              refine z_isub (pc := 110) C dL_sends_110 ?_
              have hmo := zps_mono s.2.2.1 s.2.2.2.1 (show i ≤ i + 1 by omega)
              have hmN := zps_mono s.2.2.1 s.2.2.2.1 (show i + 1 ≤ ((zbn s.2.2.1).toNat) by omega)
              refine z_topi (y := ((((zps s.2.2.1 s.2.2.2.1 (i + 1)) - (zps s.2.2.1 s.2.2.2.1 i)) : Nat) : Int)) (by omega) ?_
              refine z_aload_n (pc := 111) C dL_sends_111 2 rfl ?_
              refine z_aload_n (pc := 112) C dL_sends_112 4 rfl ?_
              refine z_callS (As := [.int (iI ((zB (zbt s.2.2.1 x i)))), .int (iI (((((zps s.2.2.1 s.2.2.2.1 (i + 1)) - (zps s.2.2.1 s.2.2.2.1 i)) : Nat) : Int))), .ref aq, .ref al]) (rest := []) (wc := [cI G aq 7 q1, cI G al 51 (zlr c1)]) (wr := [cI G aw 40 w]) (pc := 113) C dL_sends_113 (k_L_runs l G aq al q1 c1 (zB (zbt s.2.2.1 x i)) ((zps s.2.2.1 s.2.2.2.1 (i + 1)) - (zps s.2.2.1 s.2.2.2.1 i)) (zps s.2.2.1 s.2.2.2.1 i) (zB_b _) h5 (by omega)) gL_sends_L_runs ⟨⟨_, rfl⟩, ⟨rfl, rfl⟩, nyL_runs, ⟨Nat.le_of_ble_eq_true rfl, Nat.le_of_ble_eq_true rfl⟩⟩ (fun h => h) rfl (Nat.le_of_ble_eq_true rfl) [0, 2] [1] rfl rfl (by decide) (by decide) (by decide) ⟨Nat.le_of_ble_eq_true rfl, Nat.le_of_ble_eq_true rfl⟩ (fun v w hk => ?_)
              obtain ⟨rfl, rfl⟩ := hk
              refine z_fix (pc2 := 116) (st2 := [.int (iI (((((zps s.2.2.1 s.2.2.2.1 i) + ((zps s.2.2.1 s.2.2.2.1 (i + 1)) - (zps s.2.2.1 s.2.2.2.1 i))) : Nat) : Int)))]) (ws' := [cI G aq 7 (zU q1 5 (((zps s.2.2.1 s.2.2.2.1 i) + ((zps s.2.2.1 s.2.2.2.1 (i + 1)) - (zps s.2.2.1 s.2.2.2.1 i)) : Nat) : Int)), cI G aw 40 w, cI G al 51 (zlr (zst0 c1 (zps s.2.2.1 s.2.2.2.1 i) ((zps s.2.2.1 s.2.2.2.1 (i + 1)) - (zps s.2.2.1 s.2.2.2.1 i)) (decide (((zB (zbt s.2.2.1 x i)) : Int) = 1))))]) [1, 0, 2] rfl rfl rfl (by decide) ?_
              refine z_pop (pc := 116) C dL_sends_116 rfl ?_
              refine z_iinc (lv' := [(6, .int (iI (((i : Int) + 1)))), (7, .int (iI ((zB (zbt s.2.2.1 x i))))), (0, .int (iI ((x : Int)))), (1, .ref aq), (2, .ref aw), (3, .ref al), (4, .int (iI (((s.2.2.2.1 : Nat) : Int)))), (5, .int (iI (((((zbn s.2.2.1).toNat) : Nat) : Int))))]) (pc := 117) C dL_sends_117 7 rfl (by decide) rfl ?_
              refine z_goto (tgt := 34) (pc := 120) C dL_sends_120 (by decide) ?_
              refine z_lv (lv' := [(0, .int (iI ((x : Int)))), (1, .ref aq), (2, .ref aw), (3, .ref al), (4, .int (iI (((s.2.2.2.1 : Nat) : Int)))), (5, .int (iI (((((zbn s.2.2.1).toNat) : Nat) : Int)))), (6, .int (iI (((i : Int) + 1))))]) [2, 3, 4, 5, 6, 7, 0] rfl ?_
              exact ih (i + 1) _ _ (by omega) (by omega) (fun j hj => (zU_n (by omega)).trans (hq j hj)) ((zU_n (by decide)).trans hq6) (zU_s.trans (by omega)) (zaw_next hbb rfl hc)
          · refine z_iconst (pc := 46) C dL_sends_46 ?_
            refine z_goto (tgt := 90) (pc := 47) C dL_sends_47 (by decide) ?_
            refine z_topi (y := (zB (zbt s.2.2.1 x i))) (by rw [← zlx_t s.2.2.1 hx hi11]; exact (zlx_0 (by omega)).symm) ?_
            refine z_istore (lv' := [(7, .int (iI ((zB (zbt s.2.2.1 x i))))), (0, .int (iI ((x : Int)))), (1, .ref aq), (2, .ref aw), (3, .ref al), (4, .int (iI (((s.2.2.2.1 : Nat) : Int)))), (5, .int (iI (((((zbn s.2.2.1).toNat) : Nat) : Int)))), (6, .int (iI ((i : Int))))]) (pc := 90) C dL_sends_90 (by decide) rfl ?_
            refine z_iload (pc := 92) C dL_sends_92 0 rfl ?_
            refine z_iload (pc := 94) C dL_sends_94 5 rfl ?_
            refine z_iload (pc := 96) C dL_sends_96 7 rfl ?_
            refine z_iconst (pc := 98) C dL_sends_98 ?_
            refine z_iadd (pc := 99) C dL_sends_99 ?_
            refine z_aload_n (pc := 100) C dL_sends_100 2 rfl ?_
            refine z_iconst (pc := 101) C dL_sends_101 ?_
            refine z_iald (pc := 102) C dL_sends_102 0 rfl (0) (rfl) (by omega) (by decide) ?_
            refine z_imul (pc := 103) C dL_sends_103 ?_
            have hmi := zmul_b (a := ((i + 1 : Nat) : Int)) (m := 12) (s := s.2.2.1 0) (by omega) (by omega) t0
            refine z_topi (y := (((i + 1 : Nat) : Int) * s.2.2.1 0)) (by rw [e0]; rfl) ?_
            refine z_iconst (pc := 104) C dL_sends_104 ?_
            refine z_ishr (pc := 105) C dL_sends_105 ⟨hmi.1, by omega⟩ (by decide) ?_
            refine z_iadd (pc := 106) C dL_sends_106 ?_
            refine z_topi (y := (((zps s.2.2.1 s.2.2.2.1 (i + 1)) : Nat) : Int)) (by rw [zps_int _ _ (by omega)]; exact congrArg (fun z => (s.2.2.2.1 : Int) + ((i + 1 : Nat) : Int) * s.2.2.1 0 / z) (show (2 : Int) ^ (4 : Int).toNat = 16 by decide)) ?_
            refine z_aload_n (pc := 107) C dL_sends_107 2 rfl ?_
            refine z_iconst (pc := 108) C dL_sends_108 ?_
            refine z_iald (pc := 109) C dL_sends_109 0 rfl (5) (rfl) (by omega) (by decide) ?_
            refine z_topi (y := (((zps s.2.2.1 s.2.2.2.1 i) : Nat) : Int)) (h5) ?_
            refine z_isub (pc := 110) C dL_sends_110 ?_
            have hmo := zps_mono s.2.2.1 s.2.2.2.1 (show i ≤ i + 1 by omega)
            have hmN := zps_mono s.2.2.1 s.2.2.2.1 (show i + 1 ≤ ((zbn s.2.2.1).toNat) by omega)
            refine z_topi (y := ((((zps s.2.2.1 s.2.2.2.1 (i + 1)) - (zps s.2.2.1 s.2.2.2.1 i)) : Nat) : Int)) (by omega) ?_
            refine z_aload_n (pc := 111) C dL_sends_111 2 rfl ?_
            refine z_aload_n (pc := 112) C dL_sends_112 4 rfl ?_
            refine z_callS (As := [.int (iI ((zB (zbt s.2.2.1 x i)))), .int (iI (((((zps s.2.2.1 s.2.2.2.1 (i + 1)) - (zps s.2.2.1 s.2.2.2.1 i)) : Nat) : Int))), .ref aq, .ref al]) (rest := []) (wc := [cI G aq 7 q1, cI G al 51 (zlr c1)]) (wr := [cI G aw 40 w]) (pc := 113) C dL_sends_113 (k_L_runs l G aq al q1 c1 (zB (zbt s.2.2.1 x i)) ((zps s.2.2.1 s.2.2.2.1 (i + 1)) - (zps s.2.2.1 s.2.2.2.1 i)) (zps s.2.2.1 s.2.2.2.1 i) (zB_b _) h5 (by omega)) gL_sends_L_runs ⟨⟨_, rfl⟩, ⟨rfl, rfl⟩, nyL_runs, ⟨Nat.le_of_ble_eq_true rfl, Nat.le_of_ble_eq_true rfl⟩⟩ (fun h => h) rfl (Nat.le_of_ble_eq_true rfl) [0, 2] [1] rfl rfl (by decide) (by decide) (by decide) ⟨Nat.le_of_ble_eq_true rfl, Nat.le_of_ble_eq_true rfl⟩ (fun v w hk => ?_)
            obtain ⟨rfl, rfl⟩ := hk
            refine z_fix (pc2 := 116) (st2 := [.int (iI (((((zps s.2.2.1 s.2.2.2.1 i) + ((zps s.2.2.1 s.2.2.2.1 (i + 1)) - (zps s.2.2.1 s.2.2.2.1 i))) : Nat) : Int)))]) (ws' := [cI G aq 7 (zU q1 5 (((zps s.2.2.1 s.2.2.2.1 i) + ((zps s.2.2.1 s.2.2.2.1 (i + 1)) - (zps s.2.2.1 s.2.2.2.1 i)) : Nat) : Int)), cI G aw 40 w, cI G al 51 (zlr (zst0 c1 (zps s.2.2.1 s.2.2.2.1 i) ((zps s.2.2.1 s.2.2.2.1 (i + 1)) - (zps s.2.2.1 s.2.2.2.1 i)) (decide (((zB (zbt s.2.2.1 x i)) : Int) = 1))))]) [1, 0, 2] rfl rfl rfl (by decide) ?_
            refine z_pop (pc := 116) C dL_sends_116 rfl ?_
            refine z_iinc (lv' := [(6, .int (iI (((i : Int) + 1)))), (7, .int (iI ((zB (zbt s.2.2.1 x i))))), (0, .int (iI ((x : Int)))), (1, .ref aq), (2, .ref aw), (3, .ref al), (4, .int (iI (((s.2.2.2.1 : Nat) : Int)))), (5, .int (iI (((((zbn s.2.2.1).toNat) : Nat) : Int))))]) (pc := 117) C dL_sends_117 7 rfl (by decide) rfl ?_
            refine z_goto (tgt := 34) (pc := 120) C dL_sends_120 (by decide) ?_
            refine z_lv (lv' := [(0, .int (iI ((x : Int)))), (1, .ref aq), (2, .ref aw), (3, .ref al), (4, .int (iI (((s.2.2.2.1 : Nat) : Int)))), (5, .int (iI (((((zbn s.2.2.1).toNat) : Nat) : Int)))), (6, .int (iI (((i : Int) + 1))))]) [2, 3, 4, 5, 6, 7, 0] rfl ?_
            exact ih (i + 1) _ _ (by omega) (by omega) (fun j hj => (zU_n (by omega)).trans (hq j hj)) ((zU_n (by decide)).trans hq6) (zU_s.trans (by omega)) (zaw_next hbb rfl hc)
    refine z_lv (lv' := [(0, .int (iI ((x : Int)))), (1, .ref aq), (2, .ref aw), (3, .ref al), (4, .int (iI (((s.2.2.2.1 : Nat) : Int)))), (5, .int (iI (((((zbn s.2.2.1).toNat) : Nat) : Int)))), (6, .int (iI 0))]) [3, 4, 5, 6, 2, 1, 0] rfl ?_
    exact L34 (((zbn s.2.2.1).toNat) + 1) 0 q c (by omega) (by omega) (fun j _ => rfl) rfl (by rw [zps_0]; exact m5) (fun t ht => by rw [zps_0] at ht; exact hS.2.2.2.2 t ht)
  · have hy : ySnd s x = (-3, s) := if_pos (by omega)
    refine z_bipush (pc := 28) C dL_sends_28 (by decide +kernel) ?_
    exact z_iret (pc := 30) C R0 dL_sends_30 (⟨_, q, w, c, s, hS, hW, by rw [hy], by rw [hy], rfl, rfl⟩)

theorem nyL_level : yL_level.cls ≠ "java/lang/invoke/MethodHandle" ∧ yL_level.cls ≠ "java/lang/invoke/VarHandle" ∧ (parseMethodDescriptor yL_level.desc).map (fun d => d.parameters.length) = some 3 := by decide +kernel
set_option maxHeartbeats 4000000 in
set_option maxRecDepth 100000 in
theorem k_L_looks (l : Launch) (G : ZG) (aq al : Nat) (q : Nat → Int) (c : Nat → Bool) (t : Nat) (r : Nat) (s : ZS) (ht : t ≤ 5000) (hr : 4 ≤ r ∧ r ≤ 40) (hS : zLq q c s) : Kt l G yL_looks wsL_looks { frames := 1, cells := 0, slots := 0, locals := 22 } 0 0 False [.int (iI ((t : Int))), .int (iI ((r : Int))), .ref aq, .ref al] [cI G aq 7 q, cI G al 51 (zlr c)] (fun v9 w9 => v9 = some (.int (iI ((((zlk s.1 (s.2.2.1 4) t r) : Nat) : Int)))) ∧ w9 = [cI G aq 7 q, cI G al 51 (zlr c)]) := by
  refine Kt.of (cc := cL_looks) (nL := 7) (ret := (some .int)) (own := RL) rfl (by decide +kernel) rfl (Nat.le_of_ble_eq_true rfl) ?_
  intro X Y C R0 hin
  show Z l X G Y 7 0 0 0 [(0, .int (iI ((t : Int)))), (1, .int (iI ((r : Int)))), (2, .ref aq), (3, .ref al)] [] [cI G aq 7 q, cI G al 51 (zlr c)]
  obtain ⟨m0, m1, m2, m3, m4, m5, m6, he, hk⟩ := zLq_r hS
  have hIs := hS.1
  have hsm := zsm_b s.1 t r
  have hvo := zvo_b s.1 (s.2.2.1 4) t r
  have hb2 := ztn (s.1 (t + r / 2))
  refine z_iload_n (pc := 0) C dL_looks_0 0 rfl ?_
  refine z_iload_n (pc := 1) C dL_looks_1 1 rfl ?_
  refine z_iconst (pc := 2) C dL_looks_2 ?_
  refine z_idiv (pc := 3) C dL_looks_3 ⟨by omega, by omega⟩ (by decide) ?_
  refine z_iadd (pc := 4) C dL_looks_4 ?_
  refine z_aload_n (pc := 5) C dL_looks_5 2 rfl ?_
  refine z_aload_n (pc := 6) C dL_looks_6 3 rfl ?_
  refine z_callS (As := [.int (iI (((t : Int) + ((r : Int) / 2)))), .ref aq, .ref al]) (rest := []) (wc := [cI G aq 7 q, cI G al 51 (zlr c)]) (wr := []) (pc := 7) C dL_looks_7 (k_L_level l G aq al q c ((t : Int) + ((r : Int) / 2)) s ⟨by omega, by omega⟩ hS) gL_looks_L_level ⟨⟨_, rfl⟩, ⟨rfl, rfl⟩, nyL_level, ⟨Nat.le_of_ble_eq_true rfl, Nat.le_of_ble_eq_true rfl⟩⟩ (fun h => h) rfl (Nat.le_of_ble_eq_true rfl) [0, 1] [] rfl rfl (by decide) (by decide) (by decide) ⟨Nat.le_of_ble_eq_true rfl, Nat.le_of_ble_eq_true rfl⟩ (fun v w hk => ?_)
  obtain ⟨rfl, rfl⟩ := hk
  refine z_fix (pc2 := 10) (st2 := [.int (iI ((zlv s.1 ((t : Int) + ((r : Int) / 2)))))]) (ws' := [cI G aq 7 q, cI G al 51 (zlr c)]) [0, 1] rfl rfl rfl (by decide) ?_
  refine z_topi (y := ((((s.1 (t + r / 2)).toNat) : Nat) : Int)) (by rw [show (t : Int) + (r : Int) / 2 = (((t + r / 2) : Nat) : Int) by omega, zlv_nat]) ?_
  refine z_istore (lv' := [(4, .int (iI (((((s.1 (t + r / 2)).toNat) : Nat) : Int)))), (0, .int (iI ((t : Int)))), (1, .int (iI ((r : Int)))), (2, .ref aq), (3, .ref al)]) (pc := 10) C dL_looks_10 (by decide) rfl ?_
  refine z_iload_n (pc := 12) C dL_looks_12 1 rfl ?_
  refine z_iload_n (pc := 13) C dL_looks_13 2 rfl ?_
  refine z_iconst (pc := 14) C dL_looks_14 ?_
  refine z_idiv (pc := 15) C dL_looks_15 ⟨by omega, by omega⟩ (by decide) ?_
  refine z_iadd (pc := 16) C dL_looks_16 ?_
  refine z_aload_n (pc := 17) C dL_looks_17 3 rfl ?_
  refine z_aload_n (pc := 18) C dL_looks_18 4 rfl ?_
  refine z_callS (As := [.int (iI (((t : Int) + ((r : Int) / 3)))), .ref aq, .ref al]) (rest := []) (wc := [cI G aq 7 q, cI G al 51 (zlr c)]) (wr := []) (pc := 19) C dL_looks_19 (k_L_level l G aq al q c ((t : Int) + ((r : Int) / 3)) s ⟨by omega, by omega⟩ hS) gL_looks_L_level ⟨⟨_, rfl⟩, ⟨rfl, rfl⟩, nyL_level, ⟨Nat.le_of_ble_eq_true rfl, Nat.le_of_ble_eq_true rfl⟩⟩ (fun h => h) rfl (Nat.le_of_ble_eq_true rfl) [0, 1] [] rfl rfl (by decide) (by decide) (by decide) ⟨Nat.le_of_ble_eq_true rfl, Nat.le_of_ble_eq_true rfl⟩ (fun v w hk => ?_)
  obtain ⟨rfl, rfl⟩ := hk
  refine z_fix (pc2 := 22) (st2 := [.int (iI ((zlv s.1 ((t : Int) + ((r : Int) / 3)))))]) (ws' := [cI G aq 7 q, cI G al 51 (zlr c)]) [0, 1] rfl rfl rfl (by decide) ?_
  refine z_topi (y := ((((s.1 (t + r / 3)).toNat) : Nat) : Int)) (by rw [show (t : Int) + (r : Int) / 3 = (((t + r / 3) : Nat) : Int) by omega, zlv_nat]) ?_
  refine z_iload (pc := 22) C dL_looks_22 0 rfl ?_
  refine z_iadd (pc := 24) C dL_looks_24 ?_
  refine z_iload_n (pc := 25) C dL_looks_25 1 rfl ?_
  refine z_iconst (pc := 26) C dL_looks_26 ?_
  refine z_iload_n (pc := 27) C dL_looks_27 2 rfl ?_
  refine z_imul (pc := 28) C dL_looks_28 ?_
  refine z_iconst (pc := 29) C dL_looks_29 ?_
  refine z_idiv (pc := 30) C dL_looks_30 ⟨by omega, by omega⟩ (by decide) ?_
  refine z_iadd (pc := 31) C dL_looks_31 ?_
  refine z_aload_n (pc := 32) C dL_looks_32 3 rfl ?_
  refine z_aload_n (pc := 33) C dL_looks_33 4 rfl ?_
  refine z_callS (As := [.int (iI (((t : Int) + ((2 * (r : Int)) / 3)))), .ref aq, .ref al]) (rest := [.int (iI ((((((s.1 (t + r / 3)).toNat) : Nat) : Int) + ((((s.1 (t + r / 2)).toNat) : Nat) : Int))))]) (wc := [cI G aq 7 q, cI G al 51 (zlr c)]) (wr := []) (pc := 34) C dL_looks_34 (k_L_level l G aq al q c ((t : Int) + ((2 * (r : Int)) / 3)) s ⟨by omega, by omega⟩ hS) gL_looks_L_level ⟨⟨_, rfl⟩, ⟨rfl, rfl⟩, nyL_level, ⟨Nat.le_of_ble_eq_true rfl, Nat.le_of_ble_eq_true rfl⟩⟩ (fun h => h) rfl (Nat.le_of_ble_eq_true rfl) [0, 1] [] rfl rfl (by decide) (by decide) (by decide) ⟨Nat.le_of_ble_eq_true rfl, Nat.le_of_ble_eq_true rfl⟩ (fun v w hk => ?_)
  obtain ⟨rfl, rfl⟩ := hk
  refine z_fix (pc2 := 37) (st2 := [.int (iI ((zlv s.1 ((t : Int) + ((2 * (r : Int)) / 3))))), .int (iI ((((((s.1 (t + r / 3)).toNat) : Nat) : Int) + ((((s.1 (t + r / 2)).toNat) : Nat) : Int))))]) (ws' := [cI G aq 7 q, cI G al 51 (zlr c)]) [0, 1] rfl rfl rfl (by decide) ?_
  refine z_topi (y := ((((s.1 (t + 2 * r / 3)).toNat) : Nat) : Int)) (by rw [show (t : Int) + 2 * (r : Int) / 3 = (((t + 2 * r / 3) : Nat) : Int) by omega, zlv_nat]) ?_
  refine z_iadd (pc := 37) C dL_looks_37 ?_
  refine z_topi (y := (((zsm s.1 t r) : Nat) : Int)) (by unfold zsm; omega) ?_
  refine z_istore (lv' := [(5, .int (iI ((((zsm s.1 t r) : Nat) : Int)))), (4, .int (iI (((((s.1 (t + r / 2)).toNat) : Nat) : Int)))), (0, .int (iI ((t : Int)))), (1, .int (iI ((r : Int)))), (2, .ref aq), (3, .ref al)]) (pc := 38) C dL_looks_38 (by decide) rfl ?_
  refine z_aload_n (pc := 40) C dL_looks_40 4 rfl ?_
  refine z_iconst (pc := 41) C dL_looks_41 ?_
  refine z_iald (pc := 42) C dL_looks_42 0 rfl (4) (rfl) (by omega) (by decide) ?_
  refine z_iconst (pc := 43) C dL_looks_43 ?_
  refine z_icmp_ne (tgt := 52) (pc := 44) C dL_looks_44 (by decide) ⟨by omega, by omega⟩ (by decide) (fun c44 => ?_) (fun c44 => ?_)
  · refine z_iload (pc := 52) C dL_looks_52 0 rfl ?_
    refine z_iconst (pc := 54) C dL_looks_54 ?_
    refine z_icmp_lt (tgt := 62) (pc := 55) C dL_looks_55 (by decide) ⟨by omega, by omega⟩ (by decide) (fun c55 => ?_) (fun c55 => ?_)
    · refine z_iconst (pc := 62) C dL_looks_62 ?_
      refine z_topi (y := (((zvo s.1 (s.2.2.1 4) t r) : Nat) : Int)) (by unfold zvo; rw [if_neg (by omega), if_neg (by omega)]; rfl) ?_
      refine z_istore (lv' := [(6, .int (iI ((((zvo s.1 (s.2.2.1 4) t r) : Nat) : Int)))), (5, .int (iI ((((zsm s.1 t r) : Nat) : Int)))), (4, .int (iI (((((s.1 (t + r / 2)).toNat) : Nat) : Int)))), (0, .int (iI ((t : Int)))), (1, .int (iI ((r : Int)))), (2, .ref aq), (3, .ref al)]) (pc := 63) C dL_looks_63 (by decide) rfl ?_
      refine z_bipush (pc := 65) C dL_looks_65 (by decide +kernel) ?_
      refine z_iload (pc := 67) C dL_looks_67 0 rfl ?_
      refine z_imul (pc := 69) C dL_looks_69 ?_
      refine z_iload (pc := 70) C dL_looks_70 1 rfl ?_
      refine z_iadd (pc := 72) C dL_looks_72 ?_
      refine z_topi (y := (((zlk s.1 (s.2.2.1 4) t r) : Nat) : Int)) (by unfold zlk; omega) ?_
      exact z_iret (pc := 73) C R0 dL_looks_73 (⟨rfl, rfl⟩)
    · refine z_iconst (pc := 58) C dL_looks_58 ?_
      refine z_goto (tgt := 63) (pc := 59) C dL_looks_59 (by decide) ?_
      refine z_topi (y := (((zvo s.1 (s.2.2.1 4) t r) : Nat) : Int)) (by unfold zvo; rw [if_neg (by omega), if_pos (by omega)]; rfl) ?_
      refine z_istore (lv' := [(6, .int (iI ((((zvo s.1 (s.2.2.1 4) t r) : Nat) : Int)))), (5, .int (iI ((((zsm s.1 t r) : Nat) : Int)))), (4, .int (iI (((((s.1 (t + r / 2)).toNat) : Nat) : Int)))), (0, .int (iI ((t : Int)))), (1, .int (iI ((r : Int)))), (2, .ref aq), (3, .ref al)]) (pc := 63) C dL_looks_63 (by decide) rfl ?_
      refine z_bipush (pc := 65) C dL_looks_65 (by decide +kernel) ?_
      refine z_iload (pc := 67) C dL_looks_67 0 rfl ?_
      refine z_imul (pc := 69) C dL_looks_69 ?_
      refine z_iload (pc := 70) C dL_looks_70 1 rfl ?_
      refine z_iadd (pc := 72) C dL_looks_72 ?_
      refine z_topi (y := (((zlk s.1 (s.2.2.1 4) t r) : Nat) : Int)) (by unfold zlk; omega) ?_
      exact z_iret (pc := 73) C R0 dL_looks_73 (⟨rfl, rfl⟩)
  · refine z_iload (pc := 47) C dL_looks_47 1 rfl ?_
    refine z_goto (tgt := 63) (pc := 49) C dL_looks_49 (by decide) ?_
    refine z_topi (y := (((zvo s.1 (s.2.2.1 4) t r) : Nat) : Int)) (by unfold zvo; rw [if_pos (by omega)]) ?_
    refine z_istore (lv' := [(6, .int (iI ((((zvo s.1 (s.2.2.1 4) t r) : Nat) : Int)))), (5, .int (iI ((((zsm s.1 t r) : Nat) : Int)))), (4, .int (iI (((((s.1 (t + r / 2)).toNat) : Nat) : Int)))), (0, .int (iI ((t : Int)))), (1, .int (iI ((r : Int)))), (2, .ref aq), (3, .ref al)]) (pc := 63) C dL_looks_63 (by decide) rfl ?_
    refine z_bipush (pc := 65) C dL_looks_65 (by decide +kernel) ?_
    refine z_iload (pc := 67) C dL_looks_67 0 rfl ?_
    refine z_imul (pc := 69) C dL_looks_69 ?_
    refine z_iload (pc := 70) C dL_looks_70 1 rfl ?_
    refine z_iadd (pc := 72) C dL_looks_72 ?_
    refine z_topi (y := (((zlk s.1 (s.2.2.1 4) t r) : Nat) : Int)) (by unfold zlk; omega) ?_
    exact z_iret (pc := 73) C R0 dL_looks_73 (⟨rfl, rfl⟩)

set_option maxHeartbeats 4000000 in
set_option maxRecDepth 100000 in
theorem k_L_learned (l : Launch) (G : ZG) (aq al : Nat) (q : Nat → Int) (c : Nat → Bool) (s : ZS) (hS : zLq q c s) : Kt l G yL_learned wsL_learned { frames := 1, cells := 0, slots := 0, locals := 22 } 0 0 False [.ref aq, .ref al] [cI G aq 7 q, cI G al 51 (zlr c)] (fun v9 w9 => v9 = some (.int (iI ((zlearn s.1 s.2.2.2.1)))) ∧ w9 = [cI G aq 7 q, cI G al 51 (zlr c)]) := by
  refine Kt.of (cc := cL_learned) (nL := 7) (ret := (some .int)) (own := RL) rfl (by decide +kernel) rfl (Nat.le_of_ble_eq_true rfl) ?_
  intro X Y C R0 hin
  show Z l X G Y 7 0 0 0 [(0, .ref aq), (1, .ref al)] [] [cI G aq 7 q, cI G al 51 (zlr c)]
  obtain ⟨m0, m1, m2, m3, m4, m5, m6, he, hk⟩ := zLq_r hS
  have hIs := hS.1
  refine z_iconst (pc := 0) C dL_learned_0 ?_
  refine z_istore_n (lv' := [(2, .int (iI 0)), (0, .ref aq), (1, .ref al)]) (pc := 1) C dL_learned_1 (by decide) rfl ?_
  refine z_iconst (pc := 2) C dL_learned_2 ?_
  refine z_istore_n (lv' := [(3, .int (iI 0)), (2, .int (iI 0)), (0, .ref aq), (1, .ref al)]) (pc := 3) C dL_learned_3 (by decide) rfl ?_
  refine z_iconst (pc := 4) C dL_learned_4 ?_
  refine z_istore (lv' := [(4, .int (iI 0)), (3, .int (iI 0)), (2, .int (iI 0)), (0, .ref aq), (1, .ref al)]) (pc := 5) C dL_learned_5 (by decide) rfl ?_
  have L7 : ∀ (m : Nat) (t n : Nat) (z : Int), 1501 < t + m → t ≤ 1500 → zLn s.1 s.2.2.2.1 t n z → iR z → Z l X G Y 7 0 0 7 [(0, .ref aq), (1, .ref al), (2, .int (iI ((n : Int)))), (3, .int (iI z)), (4, .int (iI ((t : Int))))] [] [cI G aq 7 q, cI G al 51 (zlr c)] := by
    intro m
    induction m with
    | zero => intro t n z hn ht hL hz; exact absurd hn (by omega)
    | succ m ih =>
      intro t n z hn ht hL hz
      refine z_iload (pc := 7) C dL_learned_7 4 rfl ?_
      refine z_aload_n (pc := 9) C dL_learned_9 0 rfl ?_
      refine z_iconst (pc := 10) C dL_learned_10 ?_
      refine z_iald (pc := 11) C dL_learned_11 0 rfl (5) (rfl) (by omega) (by decide) ?_
      refine z_icmp_ge (tgt := 123) (pc := 12) C dL_learned_12 (by decide) ⟨by omega, by omega⟩ ⟨by omega, by omega⟩ (fun c12 => ?_) (fun c12 => ?_)
      · refine z_bipush (pc := 123) C dL_learned_123 (by decide +kernel) ?_
        refine z_topi (y := (zlearn s.1 s.2.2.2.1)) ((zLn_end hL (by omega)).symm) ?_
        exact z_iret (pc := 125) C R0 dL_learned_125 (⟨rfl, rfl⟩)
      · have hv0 := zlv_b s.1 (t : Int)
        have hv1 := zlv_b s.1 ((t : Int) - 1)
        have hn4 := hL.1
        refine z_iload (pc := 15) C dL_learned_15 4 rfl ?_
        refine z_aload_n (pc := 17) C dL_learned_17 0 rfl ?_
        refine z_aload_n (pc := 18) C dL_learned_18 1 rfl ?_
        refine z_callS (As := [.int (iI ((t : Int))), .ref aq, .ref al]) (rest := []) (wc := [cI G aq 7 q, cI G al 51 (zlr c)]) (wr := []) (pc := 19) C dL_learned_19 (k_L_level l G aq al q c (t : Int) s ⟨by omega, by omega⟩ hS) gL_learned_L_level ⟨⟨_, rfl⟩, ⟨rfl, rfl⟩, nyL_level, ⟨Nat.le_of_ble_eq_true rfl, Nat.le_of_ble_eq_true rfl⟩⟩ (fun h => h) rfl (Nat.le_of_ble_eq_true rfl) [0, 1] [] rfl rfl (by decide) (by decide) (by decide) ⟨Nat.le_of_ble_eq_true rfl, Nat.le_of_ble_eq_true rfl⟩ (fun v w hk => ?_)
        obtain ⟨rfl, rfl⟩ := hk
        refine z_fix (pc2 := 22) (st2 := [.int (iI ((zlv s.1 (t : Int))))]) (ws' := [cI G aq 7 q, cI G al 51 (zlr c)]) [0, 1] rfl rfl rfl (by decide) ?_
        refine z_if_ne (tgt := 42) (pc := 22) C dL_learned_22 (by decide) ⟨by omega, by omega⟩ (fun c22 => ?_) (fun c22 => ?_)
        · refine z_iconst (pc := 42) C dL_learned_42 ?_
          refine z_istore (lv' := [(5, .int (iI 0)), (0, .ref aq), (1, .ref al), (2, .int (iI ((n : Int)))), (3, .int (iI z)), (4, .int (iI ((t : Int))))]) (pc := 43) C dL_learned_43 (by decide) rfl ?_
          refine z_iload_n (pc := 45) C dL_learned_45 3 rfl ?_
          refine z_iload (pc := 46) C dL_learned_46 0 rfl ?_
          refine z_if_eq (tgt := 55) (pc := 48) C dL_learned_48 (by decide) (by decide) (fun c48 => ?_) (fun c48 => ?_)
          · refine z_iconst (pc := 55) C dL_learned_55 ?_
            refine z_iadd (pc := 56) C dL_learned_56 ?_
            refine z_istore_n (lv' := [(2, .int (iI (((n : Int) + 0)))), (5, .int (iI 0)), (0, .ref aq), (1, .ref al), (3, .int (iI z)), (4, .int (iI ((t : Int))))]) (pc := 57) C dL_learned_57 (by decide) rfl ?_
            refine z_iload (pc := 58) C dL_learned_58 1 rfl ?_
            refine z_if_eq (tgt := 73) (pc := 60) C dL_learned_60 (by decide) (by decide) (fun c60 => ?_) (fun c60 => ?_)
            · refine z_iload_n (pc := 73) C dL_learned_73 4 rfl ?_
              refine z_istore_n (lv' := [(3, .int (iI z)), (2, .int (iI (((n : Int) + 0)))), (5, .int (iI 0)), (0, .ref aq), (1, .ref al), (4, .int (iI ((t : Int))))]) (pc := 74) C dL_learned_74 (by decide) rfl ?_
              refine z_iload (pc := 75) C dL_learned_75 2 rfl ?_
              refine z_if_eq (tgt := 117) (pc := 77) C dL_learned_77 (by decide) (by decide) (fun c77 => ?_) (fun c77 => ?_)
              · refine z_iinc (lv' := [(4, .int (iI (((t : Int) + 1)))), (3, .int (iI z)), (2, .int (iI (((n : Int) + 0)))), (5, .int (iI 0)), (0, .ref aq), (1, .ref al)]) (pc := 117) C dL_learned_117 5 rfl (by decide) rfl ?_
                refine z_goto (tgt := 7) (pc := 120) C dL_learned_120 (by decide) ?_
                refine z_lv (lv' := [(0, .ref aq), (1, .ref al), (2, .int (iI (((n : Int) + 0)))), (3, .int (iI z)), (4, .int (iI (((t : Int) + 1))))]) [4, 5, 2, 1, 0] rfl ?_
                exact ih (t + 1) n z (by omega) (by omega) (zLn_no hL (by omega) (zfall_n (Or.inl c22))) hz
              · exfalso; omega
            · exfalso; omega
          · exfalso; omega
        · refine z_iload (pc := 25) C dL_learned_25 4 rfl ?_
          refine z_iconst (pc := 27) C dL_learned_27 ?_
          refine z_isub (pc := 28) C dL_learned_28 ?_
          refine z_aload_n (pc := 29) C dL_learned_29 0 rfl ?_
          refine z_aload_n (pc := 30) C dL_learned_30 1 rfl ?_
          refine z_callS (As := [.int (iI (((t : Int) - 1))), .ref aq, .ref al]) (rest := []) (wc := [cI G aq 7 q, cI G al 51 (zlr c)]) (wr := []) (pc := 31) C dL_learned_31 (k_L_level l G aq al q c ((t : Int) - 1) s ⟨by omega, by omega⟩ hS) gL_learned_L_level ⟨⟨_, rfl⟩, ⟨rfl, rfl⟩, nyL_level, ⟨Nat.le_of_ble_eq_true rfl, Nat.le_of_ble_eq_true rfl⟩⟩ (fun h => h) rfl (Nat.le_of_ble_eq_true rfl) [0, 1] [] rfl rfl (by decide) (by decide) (by decide) ⟨Nat.le_of_ble_eq_true rfl, Nat.le_of_ble_eq_true rfl⟩ (fun v w hk => ?_)
          obtain ⟨rfl, rfl⟩ := hk
          refine z_fix (pc2 := 34) (st2 := [.int (iI ((zlv s.1 ((t : Int) - 1))))]) (ws' := [cI G aq 7 q, cI G al 51 (zlr c)]) [0, 1] rfl rfl rfl (by decide) ?_
          refine z_iconst (pc := 34) C dL_learned_34 ?_
          refine z_icmp_ne (tgt := 42) (pc := 35) C dL_learned_35 (by decide) ⟨by omega, by omega⟩ (by decide) (fun c35 => ?_) (fun c35 => ?_)
          · refine z_iconst (pc := 42) C dL_learned_42 ?_
            refine z_istore (lv' := [(5, .int (iI 0)), (0, .ref aq), (1, .ref al), (2, .int (iI ((n : Int)))), (3, .int (iI z)), (4, .int (iI ((t : Int))))]) (pc := 43) C dL_learned_43 (by decide) rfl ?_
            refine z_iload_n (pc := 45) C dL_learned_45 3 rfl ?_
            refine z_iload (pc := 46) C dL_learned_46 0 rfl ?_
            refine z_if_eq (tgt := 55) (pc := 48) C dL_learned_48 (by decide) (by decide) (fun c48 => ?_) (fun c48 => ?_)
            · refine z_iconst (pc := 55) C dL_learned_55 ?_
              refine z_iadd (pc := 56) C dL_learned_56 ?_
              refine z_istore_n (lv' := [(2, .int (iI (((n : Int) + 0)))), (5, .int (iI 0)), (0, .ref aq), (1, .ref al), (3, .int (iI z)), (4, .int (iI ((t : Int))))]) (pc := 57) C dL_learned_57 (by decide) rfl ?_
              refine z_iload (pc := 58) C dL_learned_58 1 rfl ?_
              refine z_if_eq (tgt := 73) (pc := 60) C dL_learned_60 (by decide) (by decide) (fun c60 => ?_) (fun c60 => ?_)
              · refine z_iload_n (pc := 73) C dL_learned_73 4 rfl ?_
                refine z_istore_n (lv' := [(3, .int (iI z)), (2, .int (iI (((n : Int) + 0)))), (5, .int (iI 0)), (0, .ref aq), (1, .ref al), (4, .int (iI ((t : Int))))]) (pc := 74) C dL_learned_74 (by decide) rfl ?_
                refine z_iload (pc := 75) C dL_learned_75 2 rfl ?_
                refine z_if_eq (tgt := 117) (pc := 77) C dL_learned_77 (by decide) (by decide) (fun c77 => ?_) (fun c77 => ?_)
                · refine z_iinc (lv' := [(4, .int (iI (((t : Int) + 1)))), (3, .int (iI z)), (2, .int (iI (((n : Int) + 0)))), (5, .int (iI 0)), (0, .ref aq), (1, .ref al)]) (pc := 117) C dL_learned_117 5 rfl (by decide) rfl ?_
                  refine z_goto (tgt := 7) (pc := 120) C dL_learned_120 (by decide) ?_
                  refine z_lv (lv' := [(0, .ref aq), (1, .ref al), (2, .int (iI (((n : Int) + 0)))), (3, .int (iI z)), (4, .int (iI (((t : Int) + 1))))]) [4, 5, 2, 1, 0] rfl ?_
                  exact ih (t + 1) n z (by omega) (by omega) (zLn_no hL (by omega) (zfall_n (Or.inr c35))) hz
                · exfalso; omega
              · exfalso; omega
            · exfalso; omega
          · have hf : zfall s.1 t = true := zfall_y (by omega) (by omega)
            refine z_iconst (pc := 38) C dL_learned_38 ?_
            refine z_goto (tgt := 43) (pc := 39) C dL_learned_39 (by decide) ?_
            refine z_istore (lv' := [(5, .int (iI 1)), (0, .ref aq), (1, .ref al), (2, .int (iI ((n : Int)))), (3, .int (iI z)), (4, .int (iI ((t : Int))))]) (pc := 43) C dL_learned_43 (by decide) rfl ?_
            refine z_iload_n (pc := 45) C dL_learned_45 3 rfl ?_
            refine z_iload (pc := 46) C dL_learned_46 0 rfl ?_
            refine z_if_eq (tgt := 55) (pc := 48) C dL_learned_48 (by decide) (by decide) (fun c48 => ?_) (fun c48 => ?_)
            · exfalso; omega
            · refine z_iconst (pc := 51) C dL_learned_51 ?_
              refine z_goto (tgt := 56) (pc := 52) C dL_learned_52 (by decide) ?_
              refine z_iadd (pc := 56) C dL_learned_56 ?_
              refine z_istore_n (lv' := [(2, .int (iI (((n : Int) + 1)))), (5, .int (iI 1)), (0, .ref aq), (1, .ref al), (3, .int (iI z)), (4, .int (iI ((t : Int))))]) (pc := 57) C dL_learned_57 (by decide) rfl ?_
              refine z_iload (pc := 58) C dL_learned_58 1 rfl ?_
              refine z_if_eq (tgt := 73) (pc := 60) C dL_learned_60 (by decide) (by decide) (fun c60 => ?_) (fun c60 => ?_)
              · exfalso; omega
              · refine z_iload_n (pc := 63) C dL_learned_63 0 rfl ?_
                refine z_iconst (pc := 64) C dL_learned_64 ?_
                refine z_icmp_ne (tgt := 73) (pc := 65) C dL_learned_65 (by decide) ⟨by omega, by omega⟩ (by decide) (fun c65 => ?_) (fun c65 => ?_)
                · refine z_iload_n (pc := 73) C dL_learned_73 4 rfl ?_
                  refine z_istore_n (lv' := [(3, .int (iI z)), (2, .int (iI (((n : Int) + 1)))), (5, .int (iI 1)), (0, .ref aq), (1, .ref al), (4, .int (iI ((t : Int))))]) (pc := 74) C dL_learned_74 (by decide) rfl ?_
                  refine z_iload (pc := 75) C dL_learned_75 2 rfl ?_
                  refine z_if_eq (tgt := 117) (pc := 77) C dL_learned_77 (by decide) (by decide) (fun c77 => ?_) (fun c77 => ?_)
                  · exfalso; omega
                  · refine z_iload_n (pc := 80) C dL_learned_80 1 rfl ?_
                    refine z_iconst (pc := 81) C dL_learned_81 ?_
                    refine z_icmp_ne (tgt := 117) (pc := 82) C dL_learned_82 (by decide) ⟨by omega, by omega⟩ (by decide) (fun c82 => ?_) (fun c82 => ?_)
                    · refine z_iinc (lv' := [(4, .int (iI (((t : Int) + 1)))), (3, .int (iI z)), (2, .int (iI (((n : Int) + 1)))), (5, .int (iI 1)), (0, .ref aq), (1, .ref al)]) (pc := 117) C dL_learned_117 5 rfl (by decide) rfl ?_
                      refine z_goto (tgt := 7) (pc := 120) C dL_learned_120 (by decide) ?_
                      refine z_lv (lv' := [(0, .ref aq), (1, .ref al), (2, .int (iI (((n : Int) + 1)))), (3, .int (iI z)), (4, .int (iI (((t : Int) + 1))))]) [4, 5, 2, 1, 0] rfl ?_
                      exact ih (t + 1) (n + 1) z (by omega) (by omega) (zLn_go hL (by omega) hf (by omega) (by omega)) hz
                    · obtain ⟨hz5, hz6, hx5⟩ := zLn_5 hL (by omega) hf (by omega)
                      refine z_iload (pc := 85) C dL_learned_85 5 rfl ?_
                      refine z_iload_n (pc := 87) C dL_learned_87 0 rfl ?_
                      refine z_isub (pc := 88) C dL_learned_88 ?_
                      refine z_iconst (pc := 89) C dL_learned_89 ?_
                      refine z_iadd (pc := 90) C dL_learned_90 ?_
                      refine z_bipush (pc := 91) C dL_learned_91 (by decide +kernel) ?_
                      refine z_idiv (pc := 93) C dL_learned_93 ⟨by omega, by omega⟩ (by decide) ?_
                      refine z_istore (lv' := [(6, .int (iI (((((t : Int) - z) + 4) / 8)))), (3, .int (iI z)), (2, .int (iI (((n : Int) + 1)))), (5, .int (iI 1)), (0, .ref aq), (1, .ref al), (4, .int (iI ((t : Int))))]) (pc := 94) C dL_learned_94 (by decide) rfl ?_
                      refine z_iload (pc := 96) C dL_learned_96 0 rfl ?_
                      refine z_iconst (pc := 98) C dL_learned_98 ?_
                      refine z_icmp_lt (tgt := 109) (pc := 99) C dL_learned_99 (by decide) ⟨by omega, by omega⟩ (by decide) (fun c99 => ?_) (fun c99 => ?_)
                      · refine z_bipush (pc := 109) C dL_learned_109 (by decide +kernel) ?_
                        refine z_goto (tgt := 116) (pc := 111) C dL_learned_111 (by decide) ?_
                        refine z_topi (y := (zlearn s.1 s.2.2.2.1)) (by rw [hx5, if_neg (by omega)]) ?_
                        exact z_iret (pc := 116) C R0 dL_learned_116 (⟨rfl, rfl⟩)
                      · refine z_iload (pc := 102) C dL_learned_102 0 rfl ?_
                        refine z_bipush (pc := 104) C dL_learned_104 (by decide +kernel) ?_
                        refine z_icmp_le (tgt := 114) (pc := 106) C dL_learned_106 (by decide) ⟨by omega, by omega⟩ (by decide) (fun c106 => ?_) (fun c106 => ?_)
                        · refine z_iload (pc := 114) C dL_learned_114 0 rfl ?_
                          refine z_topi (y := (zlearn s.1 s.2.2.2.1)) (by rw [hx5, if_pos (by omega)]) ?_
                          exact z_iret (pc := 116) C R0 dL_learned_116 (⟨rfl, rfl⟩)
                        · refine z_bipush (pc := 109) C dL_learned_109 (by decide +kernel) ?_
                          refine z_goto (tgt := 116) (pc := 111) C dL_learned_111 (by decide) ?_
                          refine z_topi (y := (zlearn s.1 s.2.2.2.1)) (by rw [hx5, if_neg (by omega)]) ?_
                          exact z_iret (pc := 116) C R0 dL_learned_116 (⟨rfl, rfl⟩)
                · refine z_iload (pc := 68) C dL_learned_68 5 rfl ?_
                  refine z_goto (tgt := 74) (pc := 70) C dL_learned_70 (by decide) ?_
                  refine z_istore_n (lv' := [(3, .int (iI ((t : Int)))), (2, .int (iI (((n : Int) + 1)))), (5, .int (iI 1)), (0, .ref aq), (1, .ref al), (4, .int (iI ((t : Int))))]) (pc := 74) C dL_learned_74 (by decide) rfl ?_
                  refine z_iload (pc := 75) C dL_learned_75 2 rfl ?_
                  refine z_if_eq (tgt := 117) (pc := 77) C dL_learned_77 (by decide) (by decide) (fun c77 => ?_) (fun c77 => ?_)
                  · exfalso; omega
                  · refine z_iload_n (pc := 80) C dL_learned_80 1 rfl ?_
                    refine z_iconst (pc := 81) C dL_learned_81 ?_
                    refine z_icmp_ne (tgt := 117) (pc := 82) C dL_learned_82 (by decide) ⟨by omega, by omega⟩ (by decide) (fun c82 => ?_) (fun c82 => ?_)
                    · refine z_iinc (lv' := [(4, .int (iI (((t : Int) + 1)))), (3, .int (iI ((t : Int)))), (2, .int (iI (((n : Int) + 1)))), (5, .int (iI 1)), (0, .ref aq), (1, .ref al)]) (pc := 117) C dL_learned_117 5 rfl (by decide) rfl ?_
                      refine z_goto (tgt := 7) (pc := 120) C dL_learned_120 (by decide) ?_
                      refine z_lv (lv' := [(0, .ref aq), (1, .ref al), (2, .int (iI (((n : Int) + 1)))), (3, .int (iI ((t : Int)))), (4, .int (iI (((t : Int) + 1))))]) [4, 5, 2, 1, 0] rfl ?_
                      exact ih (t + 1) (n + 1) (t : Int) (by omega) (by omega) (zLn_1 hL (by omega) hf (by omega)) ⟨by omega, by omega⟩
                    · exfalso; omega
  refine z_lv (lv' := [(0, .ref aq), (1, .ref al), (2, .int (iI 0)), (3, .int (iI 0)), (4, .int (iI 0))]) [3, 4, 2, 1, 0] rfl ?_
  exact L7 1502 0 0 0 (by omega) (by omega) (zLn_0 _ _ _) (by decide)
