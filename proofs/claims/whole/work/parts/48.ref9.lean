/-! THE REFERENCE, walked: an item sent, and what comes behind it -/
theorem ffX5_goOn_141 : zFF wsX5_goOn RX5 141 RX5 TX5 20 8 := ⟨by decide +kernel, by decide, by decide +kernel⟩
theorem ffX5_goOn_28 : zFF wsX5_goOn RX5 28 RX5 TX5 20 11 := ⟨by decide +kernel, by decide, by decide +kernel⟩
theorem ffX5_goOn_153 : zFF wsX5_goOn RX5 153 RX5 TX5 20 9 := ⟨by decide +kernel, by decide, by decide +kernel⟩
theorem ffX5_goOn_25 : zFF wsX5_goOn RX5 25 RX5 TX5 20 10 := ⟨by decide +kernel, by decide, by decide +kernel⟩
set_option maxHeartbeats 4000000 in
set_option maxRecDepth 100000 in
theorem k_X5_goOn (l : Launch) (G : ZG) (B : Nat → Nat) (q0 q1 q2 q3 q4 q5 q6 q7 : Nat) (T F R : Nat → Int) (hT : ∀ i, 0 ≤ T i ∧ T i < 65536) (hn : q2 ≤ 60) (hf : zfree T q2) (ha : zat T q2 q3) (hp : ¬ zpP T q3 = 0) (hd : zpD T q3 = (q4 : Int)) (hk : zsk T q2 q4 F R) : Kt l G yX5_goOn wsX5_goOn { frames := 1, cells := 0, slots := 0, locals := 21 } 0 0 False [.ref ((B 0))] [((B 0), .inr (5, [.ref ((B 1)), .ref ((B 2)), .int (iI ((q0 : Int))), .ref ((B 3)), .int (iI ((q1 : Int))), .ref ((B 4)), .ref ((B 5)), .int (iI ((q2 : Int))), .int (iI ((q3 : Int))), .int (iI ((q4 : Int))), .ref ((B 6)), .ref ((B 7)), .int (iI ((q5 : Int))), .int (iI ((q6 : Int))), .ref ((B 8)), .ref ((B 9)), .ref ((B 10)), .ref ((B 11)), .ref ((B 12)), .int (iI ((q7 : Int)))])), cI G (B 5) 60 T, cI G (B 6) 30 F, cI G (B 7) 30 R] (fun v9 w9 => ∃ (p3 : Nat) (p4 : Nat) (R9 : Nat → Int), (zgn T q2 p3 p4 F R9 q3 q4 R) ∧ v9 = none ∧ w9 = [((B 0), .inr (5, [.ref ((B 1)), .ref ((B 2)), .int (iI ((q0 : Int))), .ref ((B 3)), .int (iI ((q1 : Int))), .ref ((B 4)), .ref ((B 5)), .int (iI ((q2 : Int))), .int (iI ((p3 : Int))), .int (iI ((p4 : Int))), .ref ((B 6)), .ref ((B 7)), .int (iI ((q5 : Int))), .int (iI ((q6 : Int))), .ref ((B 8)), .ref ((B 9)), .ref ((B 10)), .ref ((B 11)), .ref ((B 12)), .int (iI ((q7 : Int)))])), cI G (B 5) 60 T, cI G (B 6) 30 F, cI G (B 7) 30 R9]) := by
  refine Kt.of (cc := cX5_goOn) (nL := 2) (ret := none) (own := RX5) rfl (by decide +kernel) rfl (Nat.le_of_ble_eq_true rfl) ?_
  intro X Y C R0 hin
  show Z l X G Y 2 0 0 0 [(0, .ref ((B 0)))] [] [((B 0), .inr (5, [.ref ((B 1)), .ref ((B 2)), .int (iI ((q0 : Int))), .ref ((B 3)), .int (iI ((q1 : Int))), .ref ((B 4)), .ref ((B 5)), .int (iI ((q2 : Int))), .int (iI ((q3 : Int))), .int (iI ((q4 : Int))), .ref ((B 6)), .ref ((B 7)), .int (iI ((q5 : Int))), .int (iI ((q6 : Int))), .ref ((B 8)), .ref ((B 9)), .ref ((B 10)), .ref ((B 11)), .ref ((B 12)), .int (iI ((q7 : Int)))])), cI G (B 5) 60 T, cI G (B 6) 30 F, cI G (B 7) 30 R]
  have hin := ha.1
  refine z_iconst (pc := 0) C dX5_goOn_0 ?_
  refine z_istore_n (lv' := [(1, .int (iI 1)), (0, .ref ((B 0)))]) (pc := 1) C dX5_goOn_1 (by decide) rfl ?_
  have L2 : ∀ (n : Nat) (i d : Nat) (z : Int) (R1 : Nat → Int), (61 < i + n ∨ (z = 0 ∧ 0 < n)) → i ≤ q2 → zat T q2 i → zpD T i = (d : Int) → zsk T q2 d F R1 → ((z = 1 ∧ ¬ zpP T i = 0) ∨ (z = 0 ∧ zpP T i = 0)) → (∀ (S : Nat → Int) (s : ZT) (r : Option ZT), zxr S T q2 i d F R1 s r → zxr S T q2 q3 q4 F R s r) → Z l X G Y 2 0 0 2 [(0, .ref ((B 0))), (1, .int (iI z))] [] [((B 0), .inr (5, [.ref ((B 1)), .ref ((B 2)), .int (iI ((q0 : Int))), .ref ((B 3)), .int (iI ((q1 : Int))), .ref ((B 4)), .ref ((B 5)), .int (iI ((q2 : Int))), .int (iI ((i : Int))), .int (iI ((d : Int))), .ref ((B 6)), .ref ((B 7)), .int (iI ((q5 : Int))), .int (iI ((q6 : Int))), .ref ((B 8)), .ref ((B 9)), .ref ((B 10)), .ref ((B 11)), .ref ((B 12)), .int (iI ((q7 : Int)))])), cI G (B 5) 60 T, cI G (B 6) 30 F, cI G (B 7) 30 R1] := by
    intro n
    induction n with
    | zero => intro i d z R1 hn0 hi ha1 hd1 hk1 hz hx; exact absurd hn (by omega)
    | succ n ih =>
      intro i d z R1 hn0 hi ha1 hd1 hk1 hz hx
      refine z_iload_n (pc := 2) C dX5_goOn_2 1 rfl ?_
      refine z_if_eq (tgt := 103) (pc := 3) C dX5_goOn_3 (by decide) ⟨by omega, by omega⟩ (fun c3 => ?_) (fun c3 => ?_)
      · refine z_aload_n (pc := 103) C dX5_goOn_103 0 rfl ?_
        refine z_dup (pc := 104) C dX5_goOn_104 rfl ?_
        refine z_get (pc := 105) C dX5_goOn_105 zCl5 ffX5_goOn_141 0 rfl rfl ?_
        refine z_iload_n (pc := 108) C dX5_goOn_108 1 rfl ?_
        refine z_if_eq (tgt := 129) (pc := 109) C dX5_goOn_109 (by decide) ⟨by omega, by omega⟩ (fun c109 => ?_) (fun c109 => ?_)
        · refine z_iconst (pc := 129) C dX5_goOn_129 ?_
          refine z_iadd (pc := 130) C dX5_goOn_130 ?_
          refine z_topi (y := (i : Int)) (by omega) ?_
          refine z_put (ty := .int) (ws' := [((B 0), .inr (5, [.ref ((B 1)), .ref ((B 2)), .int (iI ((q0 : Int))), .ref ((B 3)), .int (iI ((q1 : Int))), .ref ((B 4)), .ref ((B 5)), .int (iI ((q2 : Int))), .int (iI ((i : Int))), .int (iI ((d : Int))), .ref ((B 6)), .ref ((B 7)), .int (iI ((q5 : Int))), .int (iI ((q6 : Int))), .ref ((B 8)), .ref ((B 9)), .ref ((B 10)), .ref ((B 11)), .ref ((B 12)), .int (iI ((q7 : Int)))])), cI G (B 5) 60 T, cI G (B 6) 30 F, cI G (B 7) 30 R1]) (pc := 131) C dX5_goOn_131 zCl5 ffX5_goOn_141 0 rfl rfl rfl rfl rfl (Nat.le_of_ble_eq_true rfl) rfl ?_
          exact z_vret (pc := 134) C R0 dX5_goOn_134 (⟨i, d, R1, ⟨ha1, Or.inr (hz.resolve_left (fun q => by omega)).2, hd1, hk1, hx⟩, rfl, rfl⟩)
        · exfalso; omega
      · refine z_aload_n (pc := 6) C dX5_goOn_6 0 rfl ?_
        refine z_aload_n (pc := 7) C dX5_goOn_7 0 rfl ?_
        refine z_get (pc := 8) C dX5_goOn_8 zCl5 ffX5_goOn_141 0 rfl rfl ?_
        refine z_callV (As := [.int (iI ((i : Int)))]) (rest := []) (wc := [((B 0), .inr (5, [.ref ((B 1)), .ref ((B 2)), .int (iI ((q0 : Int))), .ref ((B 3)), .int (iI ((q1 : Int))), .ref ((B 4)), .ref ((B 5)), .int (iI ((q2 : Int))), .int (iI ((i : Int))), .int (iI ((d : Int))), .ref ((B 6)), .ref ((B 7)), .int (iI ((q5 : Int))), .int (iI ((q6 : Int))), .ref ((B 8)), .ref ((B 9)), .ref ((B 10)), .ref ((B 11)), .ref ((B 12)), .int (iI ((q7 : Int)))])), cI G (B 5) 60 T]) (wr := [cI G (B 6) 30 F, cI G (B 7) 30 R1]) (fs := [.ref ((B 1)), .ref ((B 2)), .int (iI ((q0 : Int))), .ref ((B 3)), .int (iI ((q1 : Int))), .ref ((B 4)), .ref ((B 5)), .int (iI ((q2 : Int))), .int (iI ((i : Int))), .int (iI ((d : Int))), .ref ((B 6)), .ref ((B 7)), .int (iI ((q5 : Int))), .int (iI ((q6 : Int))), .ref ((B 8)), .ref ((B 9)), .ref ((B 10)), .ref ((B 11)), .ref ((B 12)), .int (iI ((q7 : Int)))]) (pc := 11) C dX5_goOn_11 (k_X5_codeAt l G B q0 q1 q2 i d q5 q6 q7 T i hn (by omega)) gX5_goOn_X5_codeAt ⟨⟨_, rfl⟩, ⟨rfl, rfl⟩, nyX5_codeAt, ⟨Nat.le_of_ble_eq_true rfl, Nat.le_of_ble_eq_true rfl⟩⟩ rfl zCl5 rfl (fun h => h) rfl (Nat.le_of_ble_eq_true rfl) [0, 1] [2, 3] rfl rfl (by decide) (by decide) (by decide) ⟨Nat.le_of_ble_eq_true rfl, Nat.le_of_ble_eq_true rfl⟩ (fun v w hk => ?_)
        obtain ⟨rfl, rfl⟩ := hk
        refine z_fix (pc2 := 14) (st2 := [.int (iI ((zcx T q2 i)))]) (ws' := [((B 0), .inr (5, [.ref ((B 1)), .ref ((B 2)), .int (iI ((q0 : Int))), .ref ((B 3)), .int (iI ((q1 : Int))), .ref ((B 4)), .ref ((B 5)), .int (iI ((q2 : Int))), .int (iI ((i : Int))), .int (iI ((d : Int))), .ref ((B 6)), .ref ((B 7)), .int (iI ((q5 : Int))), .int (iI ((q6 : Int))), .ref ((B 8)), .ref ((B 9)), .ref ((B 10)), .ref ((B 11)), .ref ((B 12)), .int (iI ((q7 : Int)))])), cI G (B 5) 60 T, cI G (B 6) 30 F, cI G (B 7) 30 R1]) [2, 3, 0, 1] rfl rfl rfl (by decide) ?_
        have zbi := zcx_b hT q2 i
        refine z_bipush (pc := 14) C dX5_goOn_14 (by decide +kernel) ?_
        refine z_icmp_ne (tgt := 103) (pc := 16) C dX5_goOn_16 (by decide) ⟨by omega, by omega⟩ (by decide) (fun c16 => ?_) (fun c16 => ?_)
        · refine z_aload_n (pc := 103) C dX5_goOn_103 0 rfl ?_
          refine z_dup (pc := 104) C dX5_goOn_104 rfl ?_
          refine z_get (pc := 105) C dX5_goOn_105 zCl5 ffX5_goOn_141 0 rfl rfl ?_
          refine z_iload_n (pc := 108) C dX5_goOn_108 1 rfl ?_
          refine z_if_eq (tgt := 129) (pc := 109) C dX5_goOn_109 (by decide) ⟨by omega, by omega⟩ (fun c109 => ?_) (fun c109 => ?_)
          · exfalso; omega
          · refine z_aload_n (pc := 112) C dX5_goOn_112 0 rfl ?_
            refine z_aload_n (pc := 113) C dX5_goOn_113 0 rfl ?_
            refine z_get (pc := 114) C dX5_goOn_114 zCl5 ffX5_goOn_141 0 rfl rfl ?_
            refine z_callV (As := [.int (iI ((i : Int)))]) (rest := [.int (iI ((i : Int))), .ref ((B 0))]) (wc := [((B 0), .inr (5, [.ref ((B 1)), .ref ((B 2)), .int (iI ((q0 : Int))), .ref ((B 3)), .int (iI ((q1 : Int))), .ref ((B 4)), .ref ((B 5)), .int (iI ((q2 : Int))), .int (iI ((i : Int))), .int (iI ((d : Int))), .ref ((B 6)), .ref ((B 7)), .int (iI ((q5 : Int))), .int (iI ((q6 : Int))), .ref ((B 8)), .ref ((B 9)), .ref ((B 10)), .ref ((B 11)), .ref ((B 12)), .int (iI ((q7 : Int)))])), cI G (B 5) 60 T]) (wr := [cI G (B 6) 30 F, cI G (B 7) 30 R1]) (fs := [.ref ((B 1)), .ref ((B 2)), .int (iI ((q0 : Int))), .ref ((B 3)), .int (iI ((q1 : Int))), .ref ((B 4)), .ref ((B 5)), .int (iI ((q2 : Int))), .int (iI ((i : Int))), .int (iI ((d : Int))), .ref ((B 6)), .ref ((B 7)), .int (iI ((q5 : Int))), .int (iI ((q6 : Int))), .ref ((B 8)), .ref ((B 9)), .ref ((B 10)), .ref ((B 11)), .ref ((B 12)), .int (iI ((q7 : Int)))]) (pc := 117) C dX5_goOn_117 (k_X5_codeAt l G B q0 q1 q2 i d q5 q6 q7 T i hn (by omega)) gX5_goOn_X5_codeAt ⟨⟨_, rfl⟩, ⟨rfl, rfl⟩, nyX5_codeAt, ⟨Nat.le_of_ble_eq_true rfl, Nat.le_of_ble_eq_true rfl⟩⟩ rfl zCl5 rfl (fun h => h) rfl (Nat.le_of_ble_eq_true rfl) [0, 1] [2, 3] rfl rfl (by decide) (by decide) (by decide) ⟨Nat.le_of_ble_eq_true rfl, Nat.le_of_ble_eq_true rfl⟩ (fun v w hk => ?_)
            obtain ⟨rfl, rfl⟩ := hk
            refine z_fix (pc2 := 120) (st2 := [.int (iI ((zcx T q2 i))), .int (iI ((i : Int))), .ref ((B 0))]) (ws' := [((B 0), .inr (5, [.ref ((B 1)), .ref ((B 2)), .int (iI ((q0 : Int))), .ref ((B 3)), .int (iI ((q1 : Int))), .ref ((B 4)), .ref ((B 5)), .int (iI ((q2 : Int))), .int (iI ((i : Int))), .int (iI ((d : Int))), .ref ((B 6)), .ref ((B 7)), .int (iI ((q5 : Int))), .int (iI ((q6 : Int))), .ref ((B 8)), .ref ((B 9)), .ref ((B 10)), .ref ((B 11)), .ref ((B 12)), .int (iI ((q7 : Int)))])), cI G (B 5) 60 T, cI G (B 6) 30 F, cI G (B 7) 30 R1]) [2, 3, 0, 1] rfl rfl rfl (by decide) ?_
            refine z_bipush (pc := 120) C dX5_goOn_120 (by decide +kernel) ?_
            have zbi2 := zcx_b hT q2 i
            refine z_icmp_ne (tgt := 129) (pc := 122) C dX5_goOn_122 (by decide) ⟨by omega, by omega⟩ (by decide) (fun c122 => ?_) (fun c122 => ?_)
            · refine z_iconst (pc := 129) C dX5_goOn_129 ?_
              refine z_iadd (pc := 130) C dX5_goOn_130 ?_
              refine z_topi (y := (i : Int)) (by omega) ?_
              refine z_put (ty := .int) (ws' := [((B 0), .inr (5, [.ref ((B 1)), .ref ((B 2)), .int (iI ((q0 : Int))), .ref ((B 3)), .int (iI ((q1 : Int))), .ref ((B 4)), .ref ((B 5)), .int (iI ((q2 : Int))), .int (iI ((i : Int))), .int (iI ((d : Int))), .ref ((B 6)), .ref ((B 7)), .int (iI ((q5 : Int))), .int (iI ((q6 : Int))), .ref ((B 8)), .ref ((B 9)), .ref ((B 10)), .ref ((B 11)), .ref ((B 12)), .int (iI ((q7 : Int)))])), cI G (B 5) 60 T, cI G (B 6) 30 F, cI G (B 7) 30 R1]) (pc := 131) C dX5_goOn_131 zCl5 ffX5_goOn_141 0 rfl rfl rfl rfl rfl (Nat.le_of_ble_eq_true rfl) rfl ?_
              exact z_vret (pc := 134) C R0 dX5_goOn_134 (⟨i, d, R1, ⟨ha1, Or.inl (zend hf ha1 (hz.resolve_right (fun q => by omega)).2 (by omega) (by omega)), hd1, hk1, hx⟩, rfl, rfl⟩)
            · have hlt2 := (zcx_lt (T := T) (n := q2) (i := i) (by omega)).1
              obtain ⟨f1, f2, f3, f4⟩ := ztok_c hf hlt2 ha1 (by rw [← zcx_at (T := T) hlt2]; omega)
              refine z_iconst (pc := 125) C dX5_goOn_125 ?_
              refine z_goto (tgt := 130) (pc := 126) C dX5_goOn_126 (by decide) ?_
              refine z_iadd (pc := 130) C dX5_goOn_130 ?_
              refine z_topi (y := (((i + 1) : Nat) : Int)) (rfl) ?_
              refine z_put (ty := .int) (ws' := [((B 0), .inr (5, [.ref ((B 1)), .ref ((B 2)), .int (iI ((q0 : Int))), .ref ((B 3)), .int (iI ((q1 : Int))), .ref ((B 4)), .ref ((B 5)), .int (iI ((q2 : Int))), .int (iI ((((i + 1) : Nat) : Int))), .int (iI ((d : Int))), .ref ((B 6)), .ref ((B 7)), .int (iI ((q5 : Int))), .int (iI ((q6 : Int))), .ref ((B 8)), .ref ((B 9)), .ref ((B 10)), .ref ((B 11)), .ref ((B 12)), .int (iI ((q7 : Int)))])), cI G (B 5) 60 T, cI G (B 6) 30 F, cI G (B 7) 30 R1]) (pc := 131) C dX5_goOn_131 zCl5 ffX5_goOn_141 0 rfl rfl rfl rfl rfl (Nat.le_of_ble_eq_true rfl) rfl ?_
              exact z_vret (pc := 134) C R0 dX5_goOn_134 (⟨i + 1, d, R1, ⟨f1, Or.inr f3, by rw [f2]; exact hd1, hk1, fun S s r h => hx S s r (zxr_comma hlt2 (by rw [← zcx_at (T := T) hlt2]; omega) h)⟩, rfl, rfl⟩)
        · have hlt := (zcx_lt (T := T) (n := q2) (i := i) (by omega)).1
          have hc41 : T i = 41 := by rw [← zcx_at (T := T) hlt]; omega
          obtain ⟨g1, g2, g3, g4, g5⟩ := ztok_p hf hlt ha1 hc41
          have hd0 : 0 < d := by omega
          have hkk := hk1 (d - 1) (by omega)
          have hd30 : d ≤ 30 := by
            have hh := zdep hf.1 i hi
            omega
          refine z_aload_n (pc := 19) C dX5_goOn_19 0 rfl ?_
          refine z_get (pc := 20) C dX5_goOn_20 zCl5 ffX5_goOn_28 0 rfl rfl ?_
          refine z_aload_n (pc := 23) C dX5_goOn_23 0 rfl ?_
          refine z_get (pc := 24) C dX5_goOn_24 zCl5 ffX5_goOn_153 0 rfl rfl ?_
          refine z_iconst (pc := 27) C dX5_goOn_27 ?_
          refine z_isub (pc := 28) C dX5_goOn_28 ?_
          refine z_dup2 (pc := 29) C dX5_goOn_29 rfl rfl ?_
          refine z_iald (pc := 30) C dX5_goOn_30 3 rfl ((d - 1)) (by omega) (by omega) (by decide) ?_
          refine z_iconst (pc := 31) C dX5_goOn_31 ?_
          refine z_isub (pc := 32) C dX5_goOn_32 ?_
          refine z_iast (ws' := [((B 0), .inr (5, [.ref ((B 1)), .ref ((B 2)), .int (iI ((q0 : Int))), .ref ((B 3)), .int (iI ((q1 : Int))), .ref ((B 4)), .ref ((B 5)), .int (iI ((q2 : Int))), .int (iI ((i : Int))), .int (iI ((d : Int))), .ref ((B 6)), .ref ((B 7)), .int (iI ((q5 : Int))), .int (iI ((q6 : Int))), .ref ((B 8)), .ref ((B 9)), .ref ((B 10)), .ref ((B 11)), .ref ((B 12)), .int (iI ((q7 : Int)))])), cI G (B 5) 60 T, cI G (B 6) 30 F, cI G (B 7) 30 (zU R1 (d - 1) ((R1 (d - 1)) - 1))]) (pc := 33) C dX5_goOn_33 3 rfl ((d - 1)) (by omega) (by omega) (by decide) rfl ?_
          refine z_aload_n (pc := 34) C dX5_goOn_34 0 rfl ?_
          refine z_get (pc := 35) C dX5_goOn_35 zCl5 ffX5_goOn_28 0 rfl rfl ?_
          refine z_aload_n (pc := 38) C dX5_goOn_38 0 rfl ?_
          refine z_get (pc := 39) C dX5_goOn_39 zCl5 ffX5_goOn_153 0 rfl rfl ?_
          refine z_iconst (pc := 42) C dX5_goOn_42 ?_
          refine z_isub (pc := 43) C dX5_goOn_43 ?_
          refine z_iald (pc := 44) C dX5_goOn_44 3 rfl ((d - 1)) (by omega) (by omega) (by decide) ?_
          refine z_topi (y := (R1 (d - 1) - 1)) (zU_s) ?_
          refine z_if_ne (tgt := 52) (pc := 45) C dX5_goOn_45 (by decide) ⟨by omega, by omega⟩ (fun c45 => ?_) (fun c45 => ?_)
          · refine z_iconst (pc := 52) C dX5_goOn_52 ?_
            refine z_istore_n (lv' := [(1, .int (iI 0)), (0, .ref ((B 0)))]) (pc := 53) C dX5_goOn_53 (by decide) rfl ?_
            refine z_aload_n (pc := 54) C dX5_goOn_54 1 rfl ?_
            refine z_iload_n (pc := 55) C dX5_goOn_55 0 rfl ?_
            refine z_if_eq (tgt := 68) (pc := 56) C dX5_goOn_56 (by decide) (by decide) (fun c56 => ?_) (fun c56 => ?_)
            · refine z_aload_n (pc := 68) C dX5_goOn_68 1 rfl ?_
              refine z_get (pc := 69) C dX5_goOn_69 zCl5 ffX5_goOn_25 0 rfl rfl ?_
              refine z_aload_n (pc := 72) C dX5_goOn_72 1 rfl ?_
              refine z_get (pc := 73) C dX5_goOn_73 zCl5 ffX5_goOn_153 0 rfl rfl ?_
              refine z_iconst (pc := 76) C dX5_goOn_76 ?_
              refine z_isub (pc := 77) C dX5_goOn_77 ?_
              refine z_iald (pc := 78) C dX5_goOn_78 2 rfl ((d - 1)) (by omega) (by omega) (by decide) ?_
              refine z_topi (y := ((((F (d - 1)).toNat) : Nat) : Int)) (by omega) ?_
              refine z_put (ty := .int) (ws' := [((B 0), .inr (5, [.ref ((B 1)), .ref ((B 2)), .int (iI ((q0 : Int))), .ref ((B 3)), .int (iI ((q1 : Int))), .ref ((B 4)), .ref ((B 5)), .int (iI ((q2 : Int))), .int (iI (((((F (d - 1)).toNat) : Nat) : Int))), .int (iI ((d : Int))), .ref ((B 6)), .ref ((B 7)), .int (iI ((q5 : Int))), .int (iI ((q6 : Int))), .ref ((B 8)), .ref ((B 9)), .ref ((B 10)), .ref ((B 11)), .ref ((B 12)), .int (iI ((q7 : Int)))])), cI G (B 5) 60 T, cI G (B 6) 30 F, cI G (B 7) 30 (zU R1 (d - 1) ((R1 (d - 1)) - 1))]) (pc := 79) C dX5_goOn_79 zCl5 ffX5_goOn_141 0 rfl rfl rfl rfl rfl (Nat.le_of_ble_eq_true rfl) rfl ?_
              refine z_aload_n (pc := 82) C dX5_goOn_82 1 rfl ?_
              refine z_dup (pc := 83) C dX5_goOn_83 rfl ?_
              refine z_get (pc := 84) C dX5_goOn_84 zCl5 ffX5_goOn_153 0 rfl rfl ?_
              refine z_iload_n (pc := 87) C dX5_goOn_87 0 rfl ?_
              refine z_if_eq (tgt := 95) (pc := 88) C dX5_goOn_88 (by decide) (by decide) (fun c88 => ?_) (fun c88 => ?_)
              · refine z_iconst (pc := 95) C dX5_goOn_95 ?_
                refine z_isub (pc := 96) C dX5_goOn_96 ?_
                refine z_topi (y := (d : Int)) (by omega) ?_
                refine z_put (ty := .int) (ws' := [((B 0), .inr (5, [.ref ((B 1)), .ref ((B 2)), .int (iI ((q0 : Int))), .ref ((B 3)), .int (iI ((q1 : Int))), .ref ((B 4)), .ref ((B 5)), .int (iI ((q2 : Int))), .int (iI (((((F (d - 1)).toNat) : Nat) : Int))), .int (iI ((d : Int))), .ref ((B 6)), .ref ((B 7)), .int (iI ((q5 : Int))), .int (iI ((q6 : Int))), .ref ((B 8)), .ref ((B 9)), .ref ((B 10)), .ref ((B 11)), .ref ((B 12)), .int (iI ((q7 : Int)))])), cI G (B 5) 60 T, cI G (B 6) 30 F, cI G (B 7) 30 (zU R1 (d - 1) ((R1 (d - 1)) - 1))]) (pc := 97) C dX5_goOn_97 zCl5 ffX5_goOn_153 0 rfl rfl rfl rfl rfl (Nat.le_of_ble_eq_true rfl) rfl ?_
                refine z_goto (tgt := 2) (pc := 100) C dX5_goOn_100 (by decide) ?_
                refine z_lv (lv' := [(0, .ref ((B 0))), (1, .int (iI 0))]) [1, 0] rfl ?_
                exact ih (F (d - 1)).toNat d 0 _ (Or.inr ⟨rfl, by omega⟩) hkk.2.1.1 hkk.2.1 (by rw [hkk.2.2.2.1]; omega) (zsk_back hk1 hd0 (by omega)) (Or.inr ⟨rfl, hkk.2.2.1⟩) (fun S s r h => hx S s r (zxr_back hlt hc41 (by omega) h))
              · exfalso; omega
            · exfalso; omega
          · refine z_iconst (pc := 48) C dX5_goOn_48 ?_
            refine z_goto (tgt := 53) (pc := 49) C dX5_goOn_49 (by decide) ?_
            refine z_istore_n (lv' := [(1, .int (iI 1)), (0, .ref ((B 0)))]) (pc := 53) C dX5_goOn_53 (by decide) rfl ?_
            refine z_aload_n (pc := 54) C dX5_goOn_54 1 rfl ?_
            refine z_iload_n (pc := 55) C dX5_goOn_55 0 rfl ?_
            refine z_if_eq (tgt := 68) (pc := 56) C dX5_goOn_56 (by decide) (by decide) (fun c56 => ?_) (fun c56 => ?_)
            · exfalso; omega
            · refine z_aload_n (pc := 59) C dX5_goOn_59 1 rfl ?_
              refine z_get (pc := 60) C dX5_goOn_60 zCl5 ffX5_goOn_141 0 rfl rfl ?_
              refine z_iconst (pc := 63) C dX5_goOn_63 ?_
              refine z_iadd (pc := 64) C dX5_goOn_64 ?_
              refine z_goto (tgt := 79) (pc := 65) C dX5_goOn_65 (by decide) ?_
              refine z_topi (y := (((i + 1) : Nat) : Int)) (rfl) ?_
              refine z_put (ty := .int) (ws' := [((B 0), .inr (5, [.ref ((B 1)), .ref ((B 2)), .int (iI ((q0 : Int))), .ref ((B 3)), .int (iI ((q1 : Int))), .ref ((B 4)), .ref ((B 5)), .int (iI ((q2 : Int))), .int (iI ((((i + 1) : Nat) : Int))), .int (iI ((d : Int))), .ref ((B 6)), .ref ((B 7)), .int (iI ((q5 : Int))), .int (iI ((q6 : Int))), .ref ((B 8)), .ref ((B 9)), .ref ((B 10)), .ref ((B 11)), .ref ((B 12)), .int (iI ((q7 : Int)))])), cI G (B 5) 60 T, cI G (B 6) 30 F, cI G (B 7) 30 (zU R1 (d - 1) ((R1 (d - 1)) - 1))]) (pc := 79) C dX5_goOn_79 zCl5 ffX5_goOn_141 0 rfl rfl rfl rfl rfl (Nat.le_of_ble_eq_true rfl) rfl ?_
              refine z_aload_n (pc := 82) C dX5_goOn_82 1 rfl ?_
              refine z_dup (pc := 83) C dX5_goOn_83 rfl ?_
              refine z_get (pc := 84) C dX5_goOn_84 zCl5 ffX5_goOn_153 0 rfl rfl ?_
              refine z_iload_n (pc := 87) C dX5_goOn_87 0 rfl ?_
              refine z_if_eq (tgt := 95) (pc := 88) C dX5_goOn_88 (by decide) (by decide) (fun c88 => ?_) (fun c88 => ?_)
              · exfalso; omega
              · refine z_iconst (pc := 91) C dX5_goOn_91 ?_
                refine z_goto (tgt := 96) (pc := 92) C dX5_goOn_92 (by decide) ?_
                refine z_isub (pc := 96) C dX5_goOn_96 ?_
                refine z_topi (y := (((d - 1) : Nat) : Int)) (by omega) ?_
                refine z_put (ty := .int) (ws' := [((B 0), .inr (5, [.ref ((B 1)), .ref ((B 2)), .int (iI ((q0 : Int))), .ref ((B 3)), .int (iI ((q1 : Int))), .ref ((B 4)), .ref ((B 5)), .int (iI ((q2 : Int))), .int (iI ((((i + 1) : Nat) : Int))), .int (iI ((((d - 1) : Nat) : Int))), .ref ((B 6)), .ref ((B 7)), .int (iI ((q5 : Int))), .int (iI ((q6 : Int))), .ref ((B 8)), .ref ((B 9)), .ref ((B 10)), .ref ((B 11)), .ref ((B 12)), .int (iI ((q7 : Int)))])), cI G (B 5) 60 T, cI G (B 6) 30 F, cI G (B 7) 30 (zU R1 (d - 1) ((R1 (d - 1)) - 1))]) (pc := 97) C dX5_goOn_97 zCl5 ffX5_goOn_153 0 rfl rfl rfl rfl rfl (Nat.le_of_ble_eq_true rfl) rfl ?_
                refine z_goto (tgt := 2) (pc := 100) C dX5_goOn_100 (by decide) ?_
                refine z_lv (lv' := [(0, .ref ((B 0))), (1, .int (iI 1))]) [1, 0] rfl ?_
                exact ih (i + 1) (d - 1) 1 _ (Or.inl (by omega)) g2.1 g2 (by rw [g3, hd1]; omega) (zsk_pop hk1) (Or.inl ⟨rfl, by rw [g4]; decide⟩) (fun S s r h => hx S s r (zxr_pop hlt hc41 (by omega) h))
  refine z_lv (lv' := [(0, .ref ((B 0))), (1, .int (iI 1))]) [1, 0] rfl ?_
  exact L2 62 q3 q4 1 R (by omega) hin ha hd hk (Or.inl ⟨rfl, hp⟩) (fun S s r h => h)

theorem ffX5_sendsItem_141 : zFF wsX5_sendsItem RX5 141 RX5 TX5 20 8 := ⟨by decide +kernel, by decide, by decide +kernel⟩
theorem nyX5_putLevel : yX5_putLevel.cls ≠ "java/lang/invoke/MethodHandle" ∧ yX5_putLevel.cls ≠ "java/lang/invoke/VarHandle" ∧ (parseMethodDescriptor yX5_putLevel.desc).map (fun d => d.parameters.length) = some 2 := by decide +kernel
theorem nyX5_putWord : yX5_putWord.cls ≠ "java/lang/invoke/MethodHandle" ∧ yX5_putWord.cls ≠ "java/lang/invoke/VarHandle" ∧ (parseMethodDescriptor yX5_putWord.desc).map (fun d => d.parameters.length) = some 1 := by decide +kernel
set_option maxHeartbeats 4000000 in
set_option maxRecDepth 100000 in
theorem k_X5_sendsItem_t (l : Launch) (G : ZG) (B : Nat → Nat) (q0 q1 q2 q3 q4 q5 q6 q7 : Nat) (M T : Nat → Int) (s : ZS) (t : ZT) (hs : zIs s) (hM : zMs M s) (hT : ∀ i, 0 ≤ T i ∧ T i < 65536) (hn : q2 ≤ 60) (hf : zfree T q2) (ha : zat T q2 q3) (hlt : q3 < q2) (hp : zpP T q3 = 0) (hnr : ¬ zrpt T q2 q3) (hm : zitm s.2.2.1 T q2 q3 (zTs s) = some t) : Kt l G yX5_sendsItem wsX5_sendsItem { frames := 4, cells := 0, slots := 0, locals := 93 } 0 0 False [.ref ((B 0))] [((B 0), .inr (5, [.ref ((B 1)), .ref ((B 2)), .int (iI ((q0 : Int))), .ref ((B 3)), .int (iI ((q1 : Int))), .ref ((B 4)), .ref ((B 5)), .int (iI ((q2 : Int))), .int (iI ((q3 : Int))), .int (iI ((q4 : Int))), .ref ((B 6)), .ref ((B 7)), .int (iI ((q5 : Int))), .int (iI ((q6 : Int))), .ref ((B 8)), .ref ((B 9)), .ref ((B 10)), .ref ((B 11)), .ref ((B 12)), .int (iI ((q7 : Int)))])), cI G (B 1) 1547 M, cI G (B 5) 60 T] (fun v9 w9 => ∃ (M9 : Nat → Int), (zMs M9 (zSt s t)) ∧ v9 = some (.int (iI 1)) ∧ w9 = [((B 0), .inr (5, [.ref ((B 1)), .ref ((B 2)), .int (iI ((q0 : Int))), .ref ((B 3)), .int (iI ((q1 : Int))), .ref ((B 4)), .ref ((B 5)), .int (iI ((q2 : Int))), .int (iI ((((q3 + zwid T q2 q3) : Nat) : Int))), .int (iI ((q4 : Int))), .ref ((B 6)), .ref ((B 7)), .int (iI ((q5 : Int))), .int (iI ((q6 : Int))), .ref ((B 8)), .ref ((B 9)), .ref ((B 10)), .ref ((B 11)), .ref ((B 12)), .int (iI ((q7 : Int)))])), cI G (B 1) 1547 M9, cI G (B 5) 60 T]) := by
  refine Kt.of (cc := cX5_sendsItem) (nL := 3) (ret := (some .boolean)) (own := RX5) rfl (by decide +kernel) rfl (Nat.le_of_ble_eq_true rfl) ?_
  intro X Y C R0 hin
  show Z l X G Y 3 0 0 0 [(0, .ref ((B 0)))] [] [((B 0), .inr (5, [.ref ((B 1)), .ref ((B 2)), .int (iI ((q0 : Int))), .ref ((B 3)), .int (iI ((q1 : Int))), .ref ((B 4)), .ref ((B 5)), .int (iI ((q2 : Int))), .int (iI ((q3 : Int))), .int (iI ((q4 : Int))), .ref ((B 6)), .ref ((B 7)), .int (iI ((q5 : Int))), .int (iI ((q6 : Int))), .ref ((B 8)), .ref ((B 9)), .ref ((B 10)), .ref ((B 11)), .ref ((B 12)), .int (iI ((q7 : Int)))])), cI G (B 1) 1547 M, cI G (B 5) 60 T]
  obtain ⟨m0, m1, m2, m3, m4, m5, m6, he, hk⟩ := zMs_r hs hM
  obtain ⟨n44, n41, n40⟩ := zitok hf hlt ha hp hnr
  obtain ⟨g1, g2, g3, g4, g5, g6, g7, g8⟩ := ztok_i hf hlt ha n44 n41 n40
  have hc0 : zcx T q2 q3 = T q3 := zcx_at hlt
  have hTb := hT q3
  have hTb1 := zcx_b hT q2 (q3 + 1)
  have zg0 := zdg_b (T q3)
  have zg1 := zdg_b (zcx T q2 (q3 + 1))
  refine z_aload_n (pc := 0) C dX5_sendsItem_0 0 rfl ?_
  refine z_aload_n (pc := 1) C dX5_sendsItem_1 0 rfl ?_
  refine z_get (pc := 2) C dX5_sendsItem_2 zCl5 ffX5_sendsItem_141 0 rfl rfl ?_
  refine z_callV (As := [.int (iI ((q3 : Int)))]) (rest := []) (wc := [((B 0), .inr (5, [.ref ((B 1)), .ref ((B 2)), .int (iI ((q0 : Int))), .ref ((B 3)), .int (iI ((q1 : Int))), .ref ((B 4)), .ref ((B 5)), .int (iI ((q2 : Int))), .int (iI ((q3 : Int))), .int (iI ((q4 : Int))), .ref ((B 6)), .ref ((B 7)), .int (iI ((q5 : Int))), .int (iI ((q6 : Int))), .ref ((B 8)), .ref ((B 9)), .ref ((B 10)), .ref ((B 11)), .ref ((B 12)), .int (iI ((q7 : Int)))])), cI G (B 5) 60 T]) (wr := [cI G (B 1) 1547 M]) (fs := [.ref ((B 1)), .ref ((B 2)), .int (iI ((q0 : Int))), .ref ((B 3)), .int (iI ((q1 : Int))), .ref ((B 4)), .ref ((B 5)), .int (iI ((q2 : Int))), .int (iI ((q3 : Int))), .int (iI ((q4 : Int))), .ref ((B 6)), .ref ((B 7)), .int (iI ((q5 : Int))), .int (iI ((q6 : Int))), .ref ((B 8)), .ref ((B 9)), .ref ((B 10)), .ref ((B 11)), .ref ((B 12)), .int (iI ((q7 : Int)))]) (pc := 5) C dX5_sendsItem_5 (k_X5_codeAt l G B q0 q1 q2 q3 q4 q5 q6 q7 T q3 hn (by omega)) gX5_sendsItem_X5_codeAt ⟨⟨_, rfl⟩, ⟨rfl, rfl⟩, nyX5_codeAt, ⟨Nat.le_of_ble_eq_true rfl, Nat.le_of_ble_eq_true rfl⟩⟩ rfl zCl5 rfl (fun h => h) rfl (Nat.le_of_ble_eq_true rfl) [0, 2] [1] rfl rfl (by decide) (by decide) (by decide) ⟨Nat.le_of_ble_eq_true rfl, Nat.le_of_ble_eq_true rfl⟩ (fun v w hk => ?_)
  obtain ⟨rfl, rfl⟩ := hk
  refine z_fix (pc2 := 8) (st2 := [.int (iI ((zcx T q2 q3)))]) (ws' := [((B 0), .inr (5, [.ref ((B 1)), .ref ((B 2)), .int (iI ((q0 : Int))), .ref ((B 3)), .int (iI ((q1 : Int))), .ref ((B 4)), .ref ((B 5)), .int (iI ((q2 : Int))), .int (iI ((q3 : Int))), .int (iI ((q4 : Int))), .ref ((B 6)), .ref ((B 7)), .int (iI ((q5 : Int))), .int (iI ((q6 : Int))), .ref ((B 8)), .ref ((B 9)), .ref ((B 10)), .ref ((B 11)), .ref ((B 12)), .int (iI ((q7 : Int)))])), cI G (B 1) 1547 M, cI G (B 5) 60 T]) [1, 0, 2] rfl rfl rfl (by decide) ?_
  refine z_topi (y := (T q3)) (hc0) ?_
  refine z_istore_n (lv' := [(1, .int (iI ((T q3)))), (0, .ref ((B 0)))]) (pc := 8) C dX5_sendsItem_8 (by decide) rfl ?_
  refine z_iload_n (pc := 9) C dX5_sendsItem_9 0 rfl ?_
  refine z_bipush (pc := 10) C dX5_sendsItem_10 (by decide +kernel) ?_
  refine z_icmp_eq (tgt := 21) (pc := 12) C dX5_sendsItem_12 (by decide) ⟨by omega, by omega⟩ (by decide) (fun c12 => ?_) (fun c12 => ?_)
  · have hsg : T q3 = 46 ∨ T q3 = 95 := by omega
    obtain ⟨hnv, hnw⟩ := znum_x hf hlt ha hsg
    have hnb := g3 hsg
    obtain ⟨hroom, rfl⟩ := zitm_sg hsg hm
    have hroom : znum T q2 q3 ≤ 1500 - (s.2.2.2.1 : Int) := hroom
    refine z_aload_n (pc := 21) C dX5_sendsItem_21 1 rfl ?_
    refine z_dup (pc := 22) C dX5_sendsItem_22 rfl ?_
    refine z_get (pc := 23) C dX5_sendsItem_23 zCl5 ffX5_sendsItem_141 0 rfl rfl ?_
    refine z_iconst (pc := 26) C dX5_sendsItem_26 ?_
    refine z_iadd (pc := 27) C dX5_sendsItem_27 ?_
    refine z_put (ty := .int) (ws' := [((B 0), .inr (5, [.ref ((B 1)), .ref ((B 2)), .int (iI ((q0 : Int))), .ref ((B 3)), .int (iI ((q1 : Int))), .ref ((B 4)), .ref ((B 5)), .int (iI ((q2 : Int))), .int (iI (((q3 : Int) + 1))), .int (iI ((q4 : Int))), .ref ((B 6)), .ref ((B 7)), .int (iI ((q5 : Int))), .int (iI ((q6 : Int))), .ref ((B 8)), .ref ((B 9)), .ref ((B 10)), .ref ((B 11)), .ref ((B 12)), .int (iI ((q7 : Int)))])), cI G (B 1) 1547 M, cI G (B 5) 60 T]) (pc := 28) C dX5_sendsItem_28 zCl5 ffX5_sendsItem_141 0 rfl rfl rfl rfl rfl (Nat.le_of_ble_eq_true rfl) rfl ?_
    refine z_aload_n (pc := 31) C dX5_sendsItem_31 1 rfl ?_
    refine z_iload_n (pc := 32) C dX5_sendsItem_32 0 rfl ?_
    refine z_bipush (pc := 33) C dX5_sendsItem_33 (by decide +kernel) ?_
    refine z_icmp_ne (tgt := 42) (pc := 35) C dX5_sendsItem_35 (by decide) ⟨by omega, by omega⟩ (by decide) (fun c35 => ?_) (fun c35 => ?_)
    · exfalso; omega
    · refine z_iconst (pc := 38) C dX5_sendsItem_38 ?_
      refine z_goto (tgt := 43) (pc := 39) C dX5_sendsItem_39 (by decide) ?_
      refine z_aload_n (pc := 43) C dX5_sendsItem_43 1 rfl ?_
      refine z_callV (As := []) (rest := [.int (iI 1), .ref ((B 0))]) (wc := [((B 0), .inr (5, [.ref ((B 1)), .ref ((B 2)), .int (iI ((q0 : Int))), .ref ((B 3)), .int (iI ((q1 : Int))), .ref ((B 4)), .ref ((B 5)), .int (iI ((q2 : Int))), .int (iI ((((q3 + 1) : Nat) : Int))), .int (iI ((q4 : Int))), .ref ((B 6)), .ref ((B 7)), .int (iI ((q5 : Int))), .int (iI ((q6 : Int))), .ref ((B 8)), .ref ((B 9)), .ref ((B 10)), .ref ((B 11)), .ref ((B 12)), .int (iI ((q7 : Int)))])), cI G (B 5) 60 T]) (wr := [cI G (B 1) 1547 M]) (fs := [.ref ((B 1)), .ref ((B 2)), .int (iI ((q0 : Int))), .ref ((B 3)), .int (iI ((q1 : Int))), .ref ((B 4)), .ref ((B 5)), .int (iI ((q2 : Int))), .int (iI ((((q3 + 1) : Nat) : Int))), .int (iI ((q4 : Int))), .ref ((B 6)), .ref ((B 7)), .int (iI ((q5 : Int))), .int (iI ((q6 : Int))), .ref ((B 8)), .ref ((B 9)), .ref ((B 10)), .ref ((B 11)), .ref ((B 12)), .int (iI ((q7 : Int)))]) (pc := 44) C dX5_sendsItem_44 (k_X5_readNumber l G B q0 q1 q2 (q3 + 1) q4 q5 q6 q7 T hT hn (by omega)) gX5_sendsItem_X5_readNumber ⟨⟨_, rfl⟩, ⟨rfl, rfl⟩, nyX5_readNumber, ⟨Nat.le_of_ble_eq_true rfl, Nat.le_of_ble_eq_true rfl⟩⟩ rfl zCl5 rfl (fun h => h) rfl (Nat.le_of_ble_eq_true rfl) [0, 2] [1] rfl rfl (by decide) (by decide) (by decide) ⟨Nat.le_of_ble_eq_true rfl, Nat.le_of_ble_eq_true rfl⟩ (fun v w hk => ?_)
      obtain ⟨rfl, rfl⟩ := hk
      refine z_fix (pc2 := 47) (st2 := [.int (iI ((znv T q2 (q3 + 1)))), .int (iI 1), .ref ((B 0))]) (ws' := [((B 0), .inr (5, [.ref ((B 1)), .ref ((B 2)), .int (iI ((q0 : Int))), .ref ((B 3)), .int (iI ((q1 : Int))), .ref ((B 4)), .ref ((B 5)), .int (iI ((q2 : Int))), .int (iI (((((q3 + 1) + znw T q2 (q3 + 1)) : Nat) : Int))), .int (iI ((q4 : Int))), .ref ((B 6)), .ref ((B 7)), .int (iI ((q5 : Int))), .int (iI ((q6 : Int))), .ref ((B 8)), .ref ((B 9)), .ref ((B 10)), .ref ((B 11)), .ref ((B 12)), .int (iI ((q7 : Int)))])), cI G (B 1) 1547 M, cI G (B 5) 60 T]) [1, 0, 2] rfl rfl rfl (by decide) ?_
      refine z_topi (y := (((znum T q2 q3).toNat : Nat) : Int)) (by omega) ?_
      refine z_callV (As := [.int (iI 1), .int (iI ((((znum T q2 q3).toNat : Nat) : Int)))]) (rest := []) (wc := [((B 0), .inr (5, [.ref ((B 1)), .ref ((B 2)), .int (iI ((q0 : Int))), .ref ((B 3)), .int (iI ((q1 : Int))), .ref ((B 4)), .ref ((B 5)), .int (iI ((q2 : Int))), .int (iI (((((q3 + 1) + znw T q2 (q3 + 1)) : Nat) : Int))), .int (iI ((q4 : Int))), .ref ((B 6)), .ref ((B 7)), .int (iI ((q5 : Int))), .int (iI ((q6 : Int))), .ref ((B 8)), .ref ((B 9)), .ref ((B 10)), .ref ((B 11)), .ref ((B 12)), .int (iI ((q7 : Int)))])), cI G (B 1) 1547 M]) (wr := [cI G (B 5) 60 T]) (fs := [.ref ((B 1)), .ref ((B 2)), .int (iI ((q0 : Int))), .ref ((B 3)), .int (iI ((q1 : Int))), .ref ((B 4)), .ref ((B 5)), .int (iI ((q2 : Int))), .int (iI (((((q3 + 1) + znw T q2 (q3 + 1)) : Nat) : Int))), .int (iI ((q4 : Int))), .ref ((B 6)), .ref ((B 7)), .int (iI ((q5 : Int))), .int (iI ((q6 : Int))), .ref ((B 8)), .ref ((B 9)), .ref ((B 10)), .ref ((B 11)), .ref ((B 12)), .int (iI ((q7 : Int)))]) (pc := 47) C dX5_sendsItem_47 (k_X5_putLevel_t l G B q0 q1 q2 ((q3 + 1) + znw T q2 (q3 + 1)) q4 q5 q6 q7 M 1 ((znum T q2 q3).toNat) s hs hM (by decide) (by omega)) gX5_sendsItem_X5_putLevel ⟨⟨_, rfl⟩, ⟨rfl, rfl⟩, nyX5_putLevel, ⟨Nat.le_of_ble_eq_true rfl, Nat.le_of_ble_eq_true rfl⟩⟩ rfl zCl5 rfl (fun h => h) rfl (Nat.le_of_ble_eq_true rfl) [0, 1] [2] rfl rfl (by decide) (by decide) (by decide) ⟨Nat.le_of_ble_eq_true rfl, Nat.le_of_ble_eq_true rfl⟩ (fun v w hk => ?_)
      obtain ⟨M9_47, h47_0, rfl, rfl⟩ := hk
      refine z_fix (pc2 := 50) (st2 := [.int (iI 1)]) (ws' := [((B 0), .inr (5, [.ref ((B 1)), .ref ((B 2)), .int (iI ((q0 : Int))), .ref ((B 3)), .int (iI ((q1 : Int))), .ref ((B 4)), .ref ((B 5)), .int (iI ((q2 : Int))), .int (iI (((((q3 + 1) + znw T q2 (q3 + 1)) : Nat) : Int))), .int (iI ((q4 : Int))), .ref ((B 6)), .ref ((B 7)), .int (iI ((q5 : Int))), .int (iI ((q6 : Int))), .ref ((B 8)), .ref ((B 9)), .ref ((B 10)), .ref ((B 11)), .ref ((B 12)), .int (iI ((q7 : Int)))])), cI G (B 1) 1547 M9_47, cI G (B 5) 60 T]) [1, 2, 0] rfl rfl rfl (by decide) ?_
      refine z_ws (ws' := [((B 0), .inr (5, [.ref ((B 1)), .ref ((B 2)), .int (iI ((q0 : Int))), .ref ((B 3)), .int (iI ((q1 : Int))), .ref ((B 4)), .ref ((B 5)), .int (iI ((q2 : Int))), .int (iI ((((q3 + zwid T q2 q3) : Nat) : Int))), .int (iI ((q4 : Int))), .ref ((B 6)), .ref ((B 7)), .int (iI ((q5 : Int))), .int (iI ((q6 : Int))), .ref ((B 8)), .ref ((B 9)), .ref ((B 10)), .ref ((B 11)), .ref ((B 12)), .int (iI ((q7 : Int)))])), cI G (B 1) 1547 M9_47, cI G (B 5) 60 T]) [0, 1, 2] (by rw [← hnw]; rfl) (by decide) ?_
      exact z_zret (pc := 50) C R0 (by decide) dX5_sendsItem_50 (⟨_, by rw [show T q3 = 46 by omega] ; exact h47_0, rfl, rfl⟩)
  · refine z_iload_n (pc := 15) C dX5_sendsItem_15 0 rfl ?_
    refine z_bipush (pc := 16) C dX5_sendsItem_16 (by decide +kernel) ?_
    refine z_icmp_ne (tgt := 51) (pc := 18) C dX5_sendsItem_18 (by decide) ⟨by omega, by omega⟩ (by decide) (fun c18 => ?_) (fun c18 => ?_)
    · have hsg : ¬ (T q3 = 46 ∨ T q3 = 95) := by omega
      have hwb : 0 ≤ zdg (T q3) * 16 + zdg (zcx T q2 (q3 + 1)) ∧ zdg (T q3) * 16 + zdg (zcx T q2 (q3 + 1)) ≤ 255 := g4 hsg
      obtain ⟨hroom, rfl⟩ := zitm_wd hsg hm
      have hroom : ztk s.2.2.1 ≤ 1500 - (s.2.2.2.1 : Int) := hroom
      refine z_bipush (pc := 51) C dX5_sendsItem_51 (by decide +kernel) ?_
      refine z_iload_n (pc := 53) C dX5_sendsItem_53 0 rfl ?_
      refine z_callS (As := [.int (iI ((T q3)))]) (rest := [.int (iI 16)]) (wc := []) (wr := [((B 0), .inr (5, [.ref ((B 1)), .ref ((B 2)), .int (iI ((q0 : Int))), .ref ((B 3)), .int (iI ((q1 : Int))), .ref ((B 4)), .ref ((B 5)), .int (iI ((q2 : Int))), .int (iI ((q3 : Int))), .int (iI ((q4 : Int))), .ref ((B 6)), .ref ((B 7)), .int (iI ((q5 : Int))), .int (iI ((q6 : Int))), .ref ((B 8)), .ref ((B 9)), .ref ((B 10)), .ref ((B 11)), .ref ((B 12)), .int (iI ((q7 : Int)))])), cI G (B 1) 1547 M, cI G (B 5) 60 T]) (pc := 54) C dX5_sendsItem_54 (k_X5_hex l G (T q3) ⟨by omega, by omega⟩) gX5_sendsItem_X5_hex ⟨⟨_, rfl⟩, ⟨rfl, rfl⟩, nyX5_hex, ⟨Nat.le_of_ble_eq_true rfl, Nat.le_of_ble_eq_true rfl⟩⟩ (fun h => h) rfl (Nat.le_of_ble_eq_true rfl) [] [0, 1, 2] rfl rfl (by decide) (by decide) (by decide) ⟨Nat.le_of_ble_eq_true rfl, Nat.le_of_ble_eq_true rfl⟩ (fun v w hk => ?_)
      obtain ⟨rfl, rfl⟩ := hk
      refine z_fix (pc2 := 57) (st2 := [.int (iI ((zdg (T q3)))), .int (iI 16)]) (ws' := [((B 0), .inr (5, [.ref ((B 1)), .ref ((B 2)), .int (iI ((q0 : Int))), .ref ((B 3)), .int (iI ((q1 : Int))), .ref ((B 4)), .ref ((B 5)), .int (iI ((q2 : Int))), .int (iI ((q3 : Int))), .int (iI ((q4 : Int))), .ref ((B 6)), .ref ((B 7)), .int (iI ((q5 : Int))), .int (iI ((q6 : Int))), .ref ((B 8)), .ref ((B 9)), .ref ((B 10)), .ref ((B 11)), .ref ((B 12)), .int (iI ((q7 : Int)))])), cI G (B 1) 1547 M, cI G (B 5) 60 T]) [0, 1, 2] rfl rfl rfl (by decide) ?_
      refine z_imul (pc := 57) C dX5_sendsItem_57 ?_
      refine z_aload_n (pc := 58) C dX5_sendsItem_58 1 rfl ?_
      refine z_aload_n (pc := 59) C dX5_sendsItem_59 1 rfl ?_
      refine z_get (pc := 60) C dX5_sendsItem_60 zCl5 ffX5_sendsItem_141 0 rfl rfl ?_
      refine z_iconst (pc := 63) C dX5_sendsItem_63 ?_
      refine z_iadd (pc := 64) C dX5_sendsItem_64 ?_
      refine z_callV (As := [.int (iI (((q3 : Int) + 1)))]) (rest := [.int (iI ((16 * (zdg (T q3)))))]) (wc := [((B 0), .inr (5, [.ref ((B 1)), .ref ((B 2)), .int (iI ((q0 : Int))), .ref ((B 3)), .int (iI ((q1 : Int))), .ref ((B 4)), .ref ((B 5)), .int (iI ((q2 : Int))), .int (iI ((q3 : Int))), .int (iI ((q4 : Int))), .ref ((B 6)), .ref ((B 7)), .int (iI ((q5 : Int))), .int (iI ((q6 : Int))), .ref ((B 8)), .ref ((B 9)), .ref ((B 10)), .ref ((B 11)), .ref ((B 12)), .int (iI ((q7 : Int)))])), cI G (B 5) 60 T]) (wr := [cI G (B 1) 1547 M]) (fs := [.ref ((B 1)), .ref ((B 2)), .int (iI ((q0 : Int))), .ref ((B 3)), .int (iI ((q1 : Int))), .ref ((B 4)), .ref ((B 5)), .int (iI ((q2 : Int))), .int (iI ((q3 : Int))), .int (iI ((q4 : Int))), .ref ((B 6)), .ref ((B 7)), .int (iI ((q5 : Int))), .int (iI ((q6 : Int))), .ref ((B 8)), .ref ((B 9)), .ref ((B 10)), .ref ((B 11)), .ref ((B 12)), .int (iI ((q7 : Int)))]) (pc := 65) C dX5_sendsItem_65 (k_X5_codeAt l G B q0 q1 q2 q3 q4 q5 q6 q7 T (q3 + 1) hn (by omega)) gX5_sendsItem_X5_codeAt ⟨⟨_, rfl⟩, ⟨rfl, rfl⟩, nyX5_codeAt, ⟨Nat.le_of_ble_eq_true rfl, Nat.le_of_ble_eq_true rfl⟩⟩ rfl zCl5 rfl (fun h => h) rfl (Nat.le_of_ble_eq_true rfl) [0, 2] [1] rfl rfl (by decide) (by decide) (by decide) ⟨Nat.le_of_ble_eq_true rfl, Nat.le_of_ble_eq_true rfl⟩ (fun v w hk => ?_)
      obtain ⟨rfl, rfl⟩ := hk
      refine z_fix (pc2 := 68) (st2 := [.int (iI ((zcx T q2 (q3 + 1)))), .int (iI ((16 * (zdg (T q3)))))]) (ws' := [((B 0), .inr (5, [.ref ((B 1)), .ref ((B 2)), .int (iI ((q0 : Int))), .ref ((B 3)), .int (iI ((q1 : Int))), .ref ((B 4)), .ref ((B 5)), .int (iI ((q2 : Int))), .int (iI ((q3 : Int))), .int (iI ((q4 : Int))), .ref ((B 6)), .ref ((B 7)), .int (iI ((q5 : Int))), .int (iI ((q6 : Int))), .ref ((B 8)), .ref ((B 9)), .ref ((B 10)), .ref ((B 11)), .ref ((B 12)), .int (iI ((q7 : Int)))])), cI G (B 1) 1547 M, cI G (B 5) 60 T]) [1, 0, 2] rfl rfl rfl (by decide) ?_
      refine z_callS (As := [.int (iI ((zcx T q2 (q3 + 1))))]) (rest := [.int (iI ((16 * (zdg (T q3)))))]) (wc := []) (wr := [((B 0), .inr (5, [.ref ((B 1)), .ref ((B 2)), .int (iI ((q0 : Int))), .ref ((B 3)), .int (iI ((q1 : Int))), .ref ((B 4)), .ref ((B 5)), .int (iI ((q2 : Int))), .int (iI ((q3 : Int))), .int (iI ((q4 : Int))), .ref ((B 6)), .ref ((B 7)), .int (iI ((q5 : Int))), .int (iI ((q6 : Int))), .ref ((B 8)), .ref ((B 9)), .ref ((B 10)), .ref ((B 11)), .ref ((B 12)), .int (iI ((q7 : Int)))])), cI G (B 1) 1547 M, cI G (B 5) 60 T]) (pc := 68) C dX5_sendsItem_68 (k_X5_hex l G (zcx T q2 (q3 + 1)) ⟨by omega, by omega⟩) gX5_sendsItem_X5_hex ⟨⟨_, rfl⟩, ⟨rfl, rfl⟩, nyX5_hex, ⟨Nat.le_of_ble_eq_true rfl, Nat.le_of_ble_eq_true rfl⟩⟩ (fun h => h) rfl (Nat.le_of_ble_eq_true rfl) [] [0, 1, 2] rfl rfl (by decide) (by decide) (by decide) ⟨Nat.le_of_ble_eq_true rfl, Nat.le_of_ble_eq_true rfl⟩ (fun v w hk => ?_)
      obtain ⟨rfl, rfl⟩ := hk
      refine z_fix (pc2 := 71) (st2 := [.int (iI ((zdg (zcx T q2 (q3 + 1))))), .int (iI ((16 * (zdg (T q3)))))]) (ws' := [((B 0), .inr (5, [.ref ((B 1)), .ref ((B 2)), .int (iI ((q0 : Int))), .ref ((B 3)), .int (iI ((q1 : Int))), .ref ((B 4)), .ref ((B 5)), .int (iI ((q2 : Int))), .int (iI ((q3 : Int))), .int (iI ((q4 : Int))), .ref ((B 6)), .ref ((B 7)), .int (iI ((q5 : Int))), .int (iI ((q6 : Int))), .ref ((B 8)), .ref ((B 9)), .ref ((B 10)), .ref ((B 11)), .ref ((B 12)), .int (iI ((q7 : Int)))])), cI G (B 1) 1547 M, cI G (B 5) 60 T]) [0, 1, 2] rfl rfl rfl (by decide) ?_
      refine z_iadd (pc := 71) C dX5_sendsItem_71 ?_
      refine z_topi (y := (((zdg (T q3) * 16 + zdg (zcx T q2 (q3 + 1))).toNat : Nat) : Int)) (by omega) ?_
      refine z_istore_n (lv' := [(2, .int (iI ((((zdg (T q3) * 16 + zdg (zcx T q2 (q3 + 1))).toNat : Nat) : Int)))), (1, .int (iI ((T q3)))), (0, .ref ((B 0)))]) (pc := 72) C dX5_sendsItem_72 (by decide) rfl ?_
      refine z_aload_n (pc := 73) C dX5_sendsItem_73 2 rfl ?_
      refine z_dup (pc := 74) C dX5_sendsItem_74 rfl ?_
      refine z_get (pc := 75) C dX5_sendsItem_75 zCl5 ffX5_sendsItem_141 0 rfl rfl ?_
      refine z_iconst (pc := 78) C dX5_sendsItem_78 ?_
      refine z_iadd (pc := 79) C dX5_sendsItem_79 ?_
      refine z_put (ty := .int) (ws' := [((B 0), .inr (5, [.ref ((B 1)), .ref ((B 2)), .int (iI ((q0 : Int))), .ref ((B 3)), .int (iI ((q1 : Int))), .ref ((B 4)), .ref ((B 5)), .int (iI ((q2 : Int))), .int (iI (((q3 : Int) + 2))), .int (iI ((q4 : Int))), .ref ((B 6)), .ref ((B 7)), .int (iI ((q5 : Int))), .int (iI ((q6 : Int))), .ref ((B 8)), .ref ((B 9)), .ref ((B 10)), .ref ((B 11)), .ref ((B 12)), .int (iI ((q7 : Int)))])), cI G (B 1) 1547 M, cI G (B 5) 60 T]) (pc := 80) C dX5_sendsItem_80 zCl5 ffX5_sendsItem_141 0 rfl rfl rfl rfl rfl (Nat.le_of_ble_eq_true rfl) rfl ?_
      refine z_aload_n (pc := 83) C dX5_sendsItem_83 2 rfl ?_
      refine z_iload_n (pc := 84) C dX5_sendsItem_84 0 rfl ?_
      refine z_callV (As := [.int (iI ((((zdg (T q3) * 16 + zdg (zcx T q2 (q3 + 1))).toNat : Nat) : Int)))]) (rest := []) (wc := [((B 0), .inr (5, [.ref ((B 1)), .ref ((B 2)), .int (iI ((q0 : Int))), .ref ((B 3)), .int (iI ((q1 : Int))), .ref ((B 4)), .ref ((B 5)), .int (iI ((q2 : Int))), .int (iI ((((q3 + 2) : Nat) : Int))), .int (iI ((q4 : Int))), .ref ((B 6)), .ref ((B 7)), .int (iI ((q5 : Int))), .int (iI ((q6 : Int))), .ref ((B 8)), .ref ((B 9)), .ref ((B 10)), .ref ((B 11)), .ref ((B 12)), .int (iI ((q7 : Int)))])), cI G (B 1) 1547 M]) (wr := [cI G (B 5) 60 T]) (fs := [.ref ((B 1)), .ref ((B 2)), .int (iI ((q0 : Int))), .ref ((B 3)), .int (iI ((q1 : Int))), .ref ((B 4)), .ref ((B 5)), .int (iI ((q2 : Int))), .int (iI ((((q3 + 2) : Nat) : Int))), .int (iI ((q4 : Int))), .ref ((B 6)), .ref ((B 7)), .int (iI ((q5 : Int))), .int (iI ((q6 : Int))), .ref ((B 8)), .ref ((B 9)), .ref ((B 10)), .ref ((B 11)), .ref ((B 12)), .int (iI ((q7 : Int)))]) (pc := 85) C dX5_sendsItem_85 (k_X5_putWord_t l G B q0 q1 q2 (q3 + 2) q4 q5 q6 q7 M ((zdg (T q3) * 16 + zdg (zcx T q2 (q3 + 1))).toNat) s hs hM (by omega) hroom) gX5_sendsItem_X5_putWord ⟨⟨_, rfl⟩, ⟨rfl, rfl⟩, nyX5_putWord, ⟨Nat.le_of_ble_eq_true rfl, Nat.le_of_ble_eq_true rfl⟩⟩ rfl zCl5 rfl (fun h => h) rfl (Nat.le_of_ble_eq_true rfl) [0, 1] [2] rfl rfl (by decide) (by decide) (by decide) ⟨Nat.le_of_ble_eq_true rfl, Nat.le_of_ble_eq_true rfl⟩ (fun v w hk => ?_)
      obtain ⟨M9_85, h85_0, rfl, rfl⟩ := hk
      refine z_fix (pc2 := 88) (st2 := [.int (iI 1)]) (ws' := [((B 0), .inr (5, [.ref ((B 1)), .ref ((B 2)), .int (iI ((q0 : Int))), .ref ((B 3)), .int (iI ((q1 : Int))), .ref ((B 4)), .ref ((B 5)), .int (iI ((q2 : Int))), .int (iI ((((q3 + 2) : Nat) : Int))), .int (iI ((q4 : Int))), .ref ((B 6)), .ref ((B 7)), .int (iI ((q5 : Int))), .int (iI ((q6 : Int))), .ref ((B 8)), .ref ((B 9)), .ref ((B 10)), .ref ((B 11)), .ref ((B 12)), .int (iI ((q7 : Int)))])), cI G (B 1) 1547 M9_85, cI G (B 5) 60 T]) [1, 2, 0] rfl rfl rfl (by decide) ?_
      refine z_ws (ws' := [((B 0), .inr (5, [.ref ((B 1)), .ref ((B 2)), .int (iI ((q0 : Int))), .ref ((B 3)), .int (iI ((q1 : Int))), .ref ((B 4)), .ref ((B 5)), .int (iI ((q2 : Int))), .int (iI ((((q3 + zwid T q2 q3) : Nat) : Int))), .int (iI ((q4 : Int))), .ref ((B 6)), .ref ((B 7)), .int (iI ((q5 : Int))), .int (iI ((q6 : Int))), .ref ((B 8)), .ref ((B 9)), .ref ((B 10)), .ref ((B 11)), .ref ((B 12)), .int (iI ((q7 : Int)))])), cI G (B 1) 1547 M9_85, cI G (B 5) 60 T]) [0, 1, 2] (by rw [zwid_w hsg]; rfl) (by decide) ?_
      exact z_zret (pc := 88) C R0 (by decide) dX5_sendsItem_88 (⟨_, by
  have hww : (((zdg (T q3) * 16 + zdg (zcx T q2 (q3 + 1))).toNat : Nat) : Int) = zdg (T q3) * 16 + zdg (zch T q2 ((q3 : Int) + 1)) := Int.toNat_of_nonneg hwb.1
  have h2 := h85_0
  unfold zSw at h2
  rw [hww] at h2
  exact h2, rfl, rfl⟩)
    · have hsg : T q3 = 46 ∨ T q3 = 95 := by omega
      obtain ⟨hnv, hnw⟩ := znum_x hf hlt ha hsg
      have hnb := g3 hsg
      obtain ⟨hroom, rfl⟩ := zitm_sg hsg hm
      have hroom : znum T q2 q3 ≤ 1500 - (s.2.2.2.1 : Int) := hroom
      refine z_aload_n (pc := 21) C dX5_sendsItem_21 1 rfl ?_
      refine z_dup (pc := 22) C dX5_sendsItem_22 rfl ?_
      refine z_get (pc := 23) C dX5_sendsItem_23 zCl5 ffX5_sendsItem_141 0 rfl rfl ?_
      refine z_iconst (pc := 26) C dX5_sendsItem_26 ?_
      refine z_iadd (pc := 27) C dX5_sendsItem_27 ?_
      refine z_put (ty := .int) (ws' := [((B 0), .inr (5, [.ref ((B 1)), .ref ((B 2)), .int (iI ((q0 : Int))), .ref ((B 3)), .int (iI ((q1 : Int))), .ref ((B 4)), .ref ((B 5)), .int (iI ((q2 : Int))), .int (iI (((q3 : Int) + 1))), .int (iI ((q4 : Int))), .ref ((B 6)), .ref ((B 7)), .int (iI ((q5 : Int))), .int (iI ((q6 : Int))), .ref ((B 8)), .ref ((B 9)), .ref ((B 10)), .ref ((B 11)), .ref ((B 12)), .int (iI ((q7 : Int)))])), cI G (B 1) 1547 M, cI G (B 5) 60 T]) (pc := 28) C dX5_sendsItem_28 zCl5 ffX5_sendsItem_141 0 rfl rfl rfl rfl rfl (Nat.le_of_ble_eq_true rfl) rfl ?_
      refine z_aload_n (pc := 31) C dX5_sendsItem_31 1 rfl ?_
      refine z_iload_n (pc := 32) C dX5_sendsItem_32 0 rfl ?_
      refine z_bipush (pc := 33) C dX5_sendsItem_33 (by decide +kernel) ?_
      refine z_icmp_ne (tgt := 42) (pc := 35) C dX5_sendsItem_35 (by decide) ⟨by omega, by omega⟩ (by decide) (fun c35 => ?_) (fun c35 => ?_)
      · refine z_iconst (pc := 42) C dX5_sendsItem_42 ?_
        refine z_aload_n (pc := 43) C dX5_sendsItem_43 1 rfl ?_
        refine z_callV (As := []) (rest := [.int (iI 0), .ref ((B 0))]) (wc := [((B 0), .inr (5, [.ref ((B 1)), .ref ((B 2)), .int (iI ((q0 : Int))), .ref ((B 3)), .int (iI ((q1 : Int))), .ref ((B 4)), .ref ((B 5)), .int (iI ((q2 : Int))), .int (iI ((((q3 + 1) : Nat) : Int))), .int (iI ((q4 : Int))), .ref ((B 6)), .ref ((B 7)), .int (iI ((q5 : Int))), .int (iI ((q6 : Int))), .ref ((B 8)), .ref ((B 9)), .ref ((B 10)), .ref ((B 11)), .ref ((B 12)), .int (iI ((q7 : Int)))])), cI G (B 5) 60 T]) (wr := [cI G (B 1) 1547 M]) (fs := [.ref ((B 1)), .ref ((B 2)), .int (iI ((q0 : Int))), .ref ((B 3)), .int (iI ((q1 : Int))), .ref ((B 4)), .ref ((B 5)), .int (iI ((q2 : Int))), .int (iI ((((q3 + 1) : Nat) : Int))), .int (iI ((q4 : Int))), .ref ((B 6)), .ref ((B 7)), .int (iI ((q5 : Int))), .int (iI ((q6 : Int))), .ref ((B 8)), .ref ((B 9)), .ref ((B 10)), .ref ((B 11)), .ref ((B 12)), .int (iI ((q7 : Int)))]) (pc := 44) C dX5_sendsItem_44 (k_X5_readNumber l G B q0 q1 q2 (q3 + 1) q4 q5 q6 q7 T hT hn (by omega)) gX5_sendsItem_X5_readNumber ⟨⟨_, rfl⟩, ⟨rfl, rfl⟩, nyX5_readNumber, ⟨Nat.le_of_ble_eq_true rfl, Nat.le_of_ble_eq_true rfl⟩⟩ rfl zCl5 rfl (fun h => h) rfl (Nat.le_of_ble_eq_true rfl) [0, 2] [1] rfl rfl (by decide) (by decide) (by decide) ⟨Nat.le_of_ble_eq_true rfl, Nat.le_of_ble_eq_true rfl⟩ (fun v w hk => ?_)
        obtain ⟨rfl, rfl⟩ := hk
        refine z_fix (pc2 := 47) (st2 := [.int (iI ((znv T q2 (q3 + 1)))), .int (iI 0), .ref ((B 0))]) (ws' := [((B 0), .inr (5, [.ref ((B 1)), .ref ((B 2)), .int (iI ((q0 : Int))), .ref ((B 3)), .int (iI ((q1 : Int))), .ref ((B 4)), .ref ((B 5)), .int (iI ((q2 : Int))), .int (iI (((((q3 + 1) + znw T q2 (q3 + 1)) : Nat) : Int))), .int (iI ((q4 : Int))), .ref ((B 6)), .ref ((B 7)), .int (iI ((q5 : Int))), .int (iI ((q6 : Int))), .ref ((B 8)), .ref ((B 9)), .ref ((B 10)), .ref ((B 11)), .ref ((B 12)), .int (iI ((q7 : Int)))])), cI G (B 1) 1547 M, cI G (B 5) 60 T]) [1, 0, 2] rfl rfl rfl (by decide) ?_
        refine z_topi (y := (((znum T q2 q3).toNat : Nat) : Int)) (by omega) ?_
        refine z_callV (As := [.int (iI 0), .int (iI ((((znum T q2 q3).toNat : Nat) : Int)))]) (rest := []) (wc := [((B 0), .inr (5, [.ref ((B 1)), .ref ((B 2)), .int (iI ((q0 : Int))), .ref ((B 3)), .int (iI ((q1 : Int))), .ref ((B 4)), .ref ((B 5)), .int (iI ((q2 : Int))), .int (iI (((((q3 + 1) + znw T q2 (q3 + 1)) : Nat) : Int))), .int (iI ((q4 : Int))), .ref ((B 6)), .ref ((B 7)), .int (iI ((q5 : Int))), .int (iI ((q6 : Int))), .ref ((B 8)), .ref ((B 9)), .ref ((B 10)), .ref ((B 11)), .ref ((B 12)), .int (iI ((q7 : Int)))])), cI G (B 1) 1547 M]) (wr := [cI G (B 5) 60 T]) (fs := [.ref ((B 1)), .ref ((B 2)), .int (iI ((q0 : Int))), .ref ((B 3)), .int (iI ((q1 : Int))), .ref ((B 4)), .ref ((B 5)), .int (iI ((q2 : Int))), .int (iI (((((q3 + 1) + znw T q2 (q3 + 1)) : Nat) : Int))), .int (iI ((q4 : Int))), .ref ((B 6)), .ref ((B 7)), .int (iI ((q5 : Int))), .int (iI ((q6 : Int))), .ref ((B 8)), .ref ((B 9)), .ref ((B 10)), .ref ((B 11)), .ref ((B 12)), .int (iI ((q7 : Int)))]) (pc := 47) C dX5_sendsItem_47 (k_X5_putLevel_t l G B q0 q1 q2 ((q3 + 1) + znw T q2 (q3 + 1)) q4 q5 q6 q7 M 0 ((znum T q2 q3).toNat) s hs hM (by decide) (by omega)) gX5_sendsItem_X5_putLevel ⟨⟨_, rfl⟩, ⟨rfl, rfl⟩, nyX5_putLevel, ⟨Nat.le_of_ble_eq_true rfl, Nat.le_of_ble_eq_true rfl⟩⟩ rfl zCl5 rfl (fun h => h) rfl (Nat.le_of_ble_eq_true rfl) [0, 1] [2] rfl rfl (by decide) (by decide) (by decide) ⟨Nat.le_of_ble_eq_true rfl, Nat.le_of_ble_eq_true rfl⟩ (fun v w hk => ?_)
        obtain ⟨M9_47, h47_0, rfl, rfl⟩ := hk
        refine z_fix (pc2 := 50) (st2 := [.int (iI 1)]) (ws' := [((B 0), .inr (5, [.ref ((B 1)), .ref ((B 2)), .int (iI ((q0 : Int))), .ref ((B 3)), .int (iI ((q1 : Int))), .ref ((B 4)), .ref ((B 5)), .int (iI ((q2 : Int))), .int (iI (((((q3 + 1) + znw T q2 (q3 + 1)) : Nat) : Int))), .int (iI ((q4 : Int))), .ref ((B 6)), .ref ((B 7)), .int (iI ((q5 : Int))), .int (iI ((q6 : Int))), .ref ((B 8)), .ref ((B 9)), .ref ((B 10)), .ref ((B 11)), .ref ((B 12)), .int (iI ((q7 : Int)))])), cI G (B 1) 1547 M9_47, cI G (B 5) 60 T]) [1, 2, 0] rfl rfl rfl (by decide) ?_
        refine z_ws (ws' := [((B 0), .inr (5, [.ref ((B 1)), .ref ((B 2)), .int (iI ((q0 : Int))), .ref ((B 3)), .int (iI ((q1 : Int))), .ref ((B 4)), .ref ((B 5)), .int (iI ((q2 : Int))), .int (iI ((((q3 + zwid T q2 q3) : Nat) : Int))), .int (iI ((q4 : Int))), .ref ((B 6)), .ref ((B 7)), .int (iI ((q5 : Int))), .int (iI ((q6 : Int))), .ref ((B 8)), .ref ((B 9)), .ref ((B 10)), .ref ((B 11)), .ref ((B 12)), .int (iI ((q7 : Int)))])), cI G (B 1) 1547 M9_47, cI G (B 5) 60 T]) [0, 1, 2] (by rw [← hnw]; rfl) (by decide) ?_
        exact z_zret (pc := 50) C R0 (by decide) dX5_sendsItem_50 (⟨_, by rw [show T q3 = 95 by omega]; exact h47_0, rfl, rfl⟩)
      · exfalso; omega

set_option maxHeartbeats 4000000 in
set_option maxRecDepth 100000 in
theorem k_X5_sendsItem_f (l : Launch) (G : ZG) (B : Nat → Nat) (q0 q1 q2 q3 q4 q5 q6 q7 : Nat) (M T : Nat → Int) (s : ZS) (hs : zIs s) (hM : zMs M s) (hT : ∀ i, 0 ≤ T i ∧ T i < 65536) (hn : q2 ≤ 60) (hf : zfree T q2) (ha : zat T q2 q3) (hlt : q3 < q2) (hp : zpP T q3 = 0) (hnr : ¬ zrpt T q2 q3) (hm : zitm s.2.2.1 T q2 q3 (zTs s) = none) : Kt l G yX5_sendsItem wsX5_sendsItem { frames := 4, cells := 0, slots := 0, locals := 93 } 0 0 False [.ref ((B 0))] [((B 0), .inr (5, [.ref ((B 1)), .ref ((B 2)), .int (iI ((q0 : Int))), .ref ((B 3)), .int (iI ((q1 : Int))), .ref ((B 4)), .ref ((B 5)), .int (iI ((q2 : Int))), .int (iI ((q3 : Int))), .int (iI ((q4 : Int))), .ref ((B 6)), .ref ((B 7)), .int (iI ((q5 : Int))), .int (iI ((q6 : Int))), .ref ((B 8)), .ref ((B 9)), .ref ((B 10)), .ref ((B 11)), .ref ((B 12)), .int (iI ((q7 : Int)))])), cI G (B 1) 1547 M, cI G (B 5) 60 T] (fun v9 w9 => ∃ (p3 : Nat), v9 = some (.int (iI 0)) ∧ w9 = [((B 0), .inr (5, [.ref ((B 1)), .ref ((B 2)), .int (iI ((q0 : Int))), .ref ((B 3)), .int (iI ((q1 : Int))), .ref ((B 4)), .ref ((B 5)), .int (iI ((q2 : Int))), .int (iI ((p3 : Int))), .int (iI ((q4 : Int))), .ref ((B 6)), .ref ((B 7)), .int (iI ((q5 : Int))), .int (iI ((q6 : Int))), .ref ((B 8)), .ref ((B 9)), .ref ((B 10)), .ref ((B 11)), .ref ((B 12)), .int (iI ((q7 : Int)))])), cI G (B 1) 1547 M, cI G (B 5) 60 T]) := by
  refine Kt.of (cc := cX5_sendsItem) (nL := 3) (ret := (some .boolean)) (own := RX5) rfl (by decide +kernel) rfl (Nat.le_of_ble_eq_true rfl) ?_
  intro X Y C R0 hin
  show Z l X G Y 3 0 0 0 [(0, .ref ((B 0)))] [] [((B 0), .inr (5, [.ref ((B 1)), .ref ((B 2)), .int (iI ((q0 : Int))), .ref ((B 3)), .int (iI ((q1 : Int))), .ref ((B 4)), .ref ((B 5)), .int (iI ((q2 : Int))), .int (iI ((q3 : Int))), .int (iI ((q4 : Int))), .ref ((B 6)), .ref ((B 7)), .int (iI ((q5 : Int))), .int (iI ((q6 : Int))), .ref ((B 8)), .ref ((B 9)), .ref ((B 10)), .ref ((B 11)), .ref ((B 12)), .int (iI ((q7 : Int)))])), cI G (B 1) 1547 M, cI G (B 5) 60 T]
  obtain ⟨m0, m1, m2, m3, m4, m5, m6, he, hk⟩ := zMs_r hs hM
  obtain ⟨n44, n41, n40⟩ := zitok hf hlt ha hp hnr
  obtain ⟨g1, g2, g3, g4, g5, g6, g7, g8⟩ := ztok_i hf hlt ha n44 n41 n40
  have hc0 : zcx T q2 q3 = T q3 := zcx_at hlt
  have hTb := hT q3
  have hTb1 := zcx_b hT q2 (q3 + 1)
  have zg0 := zdg_b (T q3)
  have zg1 := zdg_b (zcx T q2 (q3 + 1))
  refine z_aload_n (pc := 0) C dX5_sendsItem_0 0 rfl ?_
  refine z_aload_n (pc := 1) C dX5_sendsItem_1 0 rfl ?_
  refine z_get (pc := 2) C dX5_sendsItem_2 zCl5 ffX5_sendsItem_141 0 rfl rfl ?_
  refine z_callV (As := [.int (iI ((q3 : Int)))]) (rest := []) (wc := [((B 0), .inr (5, [.ref ((B 1)), .ref ((B 2)), .int (iI ((q0 : Int))), .ref ((B 3)), .int (iI ((q1 : Int))), .ref ((B 4)), .ref ((B 5)), .int (iI ((q2 : Int))), .int (iI ((q3 : Int))), .int (iI ((q4 : Int))), .ref ((B 6)), .ref ((B 7)), .int (iI ((q5 : Int))), .int (iI ((q6 : Int))), .ref ((B 8)), .ref ((B 9)), .ref ((B 10)), .ref ((B 11)), .ref ((B 12)), .int (iI ((q7 : Int)))])), cI G (B 5) 60 T]) (wr := [cI G (B 1) 1547 M]) (fs := [.ref ((B 1)), .ref ((B 2)), .int (iI ((q0 : Int))), .ref ((B 3)), .int (iI ((q1 : Int))), .ref ((B 4)), .ref ((B 5)), .int (iI ((q2 : Int))), .int (iI ((q3 : Int))), .int (iI ((q4 : Int))), .ref ((B 6)), .ref ((B 7)), .int (iI ((q5 : Int))), .int (iI ((q6 : Int))), .ref ((B 8)), .ref ((B 9)), .ref ((B 10)), .ref ((B 11)), .ref ((B 12)), .int (iI ((q7 : Int)))]) (pc := 5) C dX5_sendsItem_5 (k_X5_codeAt l G B q0 q1 q2 q3 q4 q5 q6 q7 T q3 hn (by omega)) gX5_sendsItem_X5_codeAt ⟨⟨_, rfl⟩, ⟨rfl, rfl⟩, nyX5_codeAt, ⟨Nat.le_of_ble_eq_true rfl, Nat.le_of_ble_eq_true rfl⟩⟩ rfl zCl5 rfl (fun h => h) rfl (Nat.le_of_ble_eq_true rfl) [0, 2] [1] rfl rfl (by decide) (by decide) (by decide) ⟨Nat.le_of_ble_eq_true rfl, Nat.le_of_ble_eq_true rfl⟩ (fun v w hk => ?_)
  obtain ⟨rfl, rfl⟩ := hk
  refine z_fix (pc2 := 8) (st2 := [.int (iI ((zcx T q2 q3)))]) (ws' := [((B 0), .inr (5, [.ref ((B 1)), .ref ((B 2)), .int (iI ((q0 : Int))), .ref ((B 3)), .int (iI ((q1 : Int))), .ref ((B 4)), .ref ((B 5)), .int (iI ((q2 : Int))), .int (iI ((q3 : Int))), .int (iI ((q4 : Int))), .ref ((B 6)), .ref ((B 7)), .int (iI ((q5 : Int))), .int (iI ((q6 : Int))), .ref ((B 8)), .ref ((B 9)), .ref ((B 10)), .ref ((B 11)), .ref ((B 12)), .int (iI ((q7 : Int)))])), cI G (B 1) 1547 M, cI G (B 5) 60 T]) [1, 0, 2] rfl rfl rfl (by decide) ?_
  refine z_topi (y := (T q3)) (hc0) ?_
  refine z_istore_n (lv' := [(1, .int (iI ((T q3)))), (0, .ref ((B 0)))]) (pc := 8) C dX5_sendsItem_8 (by decide) rfl ?_
  refine z_iload_n (pc := 9) C dX5_sendsItem_9 0 rfl ?_
  refine z_bipush (pc := 10) C dX5_sendsItem_10 (by decide +kernel) ?_
  refine z_icmp_eq (tgt := 21) (pc := 12) C dX5_sendsItem_12 (by decide) ⟨by omega, by omega⟩ (by decide) (fun c12 => ?_) (fun c12 => ?_)
  · have hsg : T q3 = 46 ∨ T q3 = 95 := by omega
    obtain ⟨hnv, hnw⟩ := znum_x hf hlt ha hsg
    have hnb := g3 hsg
    have hroom : 1500 - (s.2.2.2.1 : Int) < znum T q2 q3 := zitm_sn hsg hm
    refine z_aload_n (pc := 21) C dX5_sendsItem_21 1 rfl ?_
    refine z_dup (pc := 22) C dX5_sendsItem_22 rfl ?_
    refine z_get (pc := 23) C dX5_sendsItem_23 zCl5 ffX5_sendsItem_141 0 rfl rfl ?_
    refine z_iconst (pc := 26) C dX5_sendsItem_26 ?_
    refine z_iadd (pc := 27) C dX5_sendsItem_27 ?_
    refine z_put (ty := .int) (ws' := [((B 0), .inr (5, [.ref ((B 1)), .ref ((B 2)), .int (iI ((q0 : Int))), .ref ((B 3)), .int (iI ((q1 : Int))), .ref ((B 4)), .ref ((B 5)), .int (iI ((q2 : Int))), .int (iI (((q3 : Int) + 1))), .int (iI ((q4 : Int))), .ref ((B 6)), .ref ((B 7)), .int (iI ((q5 : Int))), .int (iI ((q6 : Int))), .ref ((B 8)), .ref ((B 9)), .ref ((B 10)), .ref ((B 11)), .ref ((B 12)), .int (iI ((q7 : Int)))])), cI G (B 1) 1547 M, cI G (B 5) 60 T]) (pc := 28) C dX5_sendsItem_28 zCl5 ffX5_sendsItem_141 0 rfl rfl rfl rfl rfl (Nat.le_of_ble_eq_true rfl) rfl ?_
    refine z_aload_n (pc := 31) C dX5_sendsItem_31 1 rfl ?_
    refine z_iload_n (pc := 32) C dX5_sendsItem_32 0 rfl ?_
    refine z_bipush (pc := 33) C dX5_sendsItem_33 (by decide +kernel) ?_
    refine z_icmp_ne (tgt := 42) (pc := 35) C dX5_sendsItem_35 (by decide) ⟨by omega, by omega⟩ (by decide) (fun c35 => ?_) (fun c35 => ?_)
    · exfalso; omega
    · refine z_iconst (pc := 38) C dX5_sendsItem_38 ?_
      refine z_goto (tgt := 43) (pc := 39) C dX5_sendsItem_39 (by decide) ?_
      refine z_aload_n (pc := 43) C dX5_sendsItem_43 1 rfl ?_
      refine z_callV (As := []) (rest := [.int (iI 1), .ref ((B 0))]) (wc := [((B 0), .inr (5, [.ref ((B 1)), .ref ((B 2)), .int (iI ((q0 : Int))), .ref ((B 3)), .int (iI ((q1 : Int))), .ref ((B 4)), .ref ((B 5)), .int (iI ((q2 : Int))), .int (iI ((((q3 + 1) : Nat) : Int))), .int (iI ((q4 : Int))), .ref ((B 6)), .ref ((B 7)), .int (iI ((q5 : Int))), .int (iI ((q6 : Int))), .ref ((B 8)), .ref ((B 9)), .ref ((B 10)), .ref ((B 11)), .ref ((B 12)), .int (iI ((q7 : Int)))])), cI G (B 5) 60 T]) (wr := [cI G (B 1) 1547 M]) (fs := [.ref ((B 1)), .ref ((B 2)), .int (iI ((q0 : Int))), .ref ((B 3)), .int (iI ((q1 : Int))), .ref ((B 4)), .ref ((B 5)), .int (iI ((q2 : Int))), .int (iI ((((q3 + 1) : Nat) : Int))), .int (iI ((q4 : Int))), .ref ((B 6)), .ref ((B 7)), .int (iI ((q5 : Int))), .int (iI ((q6 : Int))), .ref ((B 8)), .ref ((B 9)), .ref ((B 10)), .ref ((B 11)), .ref ((B 12)), .int (iI ((q7 : Int)))]) (pc := 44) C dX5_sendsItem_44 (k_X5_readNumber l G B q0 q1 q2 (q3 + 1) q4 q5 q6 q7 T hT hn (by omega)) gX5_sendsItem_X5_readNumber ⟨⟨_, rfl⟩, ⟨rfl, rfl⟩, nyX5_readNumber, ⟨Nat.le_of_ble_eq_true rfl, Nat.le_of_ble_eq_true rfl⟩⟩ rfl zCl5 rfl (fun h => h) rfl (Nat.le_of_ble_eq_true rfl) [0, 2] [1] rfl rfl (by decide) (by decide) (by decide) ⟨Nat.le_of_ble_eq_true rfl, Nat.le_of_ble_eq_true rfl⟩ (fun v w hk => ?_)
      obtain ⟨rfl, rfl⟩ := hk
      refine z_fix (pc2 := 47) (st2 := [.int (iI ((znv T q2 (q3 + 1)))), .int (iI 1), .ref ((B 0))]) (ws' := [((B 0), .inr (5, [.ref ((B 1)), .ref ((B 2)), .int (iI ((q0 : Int))), .ref ((B 3)), .int (iI ((q1 : Int))), .ref ((B 4)), .ref ((B 5)), .int (iI ((q2 : Int))), .int (iI (((((q3 + 1) + znw T q2 (q3 + 1)) : Nat) : Int))), .int (iI ((q4 : Int))), .ref ((B 6)), .ref ((B 7)), .int (iI ((q5 : Int))), .int (iI ((q6 : Int))), .ref ((B 8)), .ref ((B 9)), .ref ((B 10)), .ref ((B 11)), .ref ((B 12)), .int (iI ((q7 : Int)))])), cI G (B 1) 1547 M, cI G (B 5) 60 T]) [1, 0, 2] rfl rfl rfl (by decide) ?_
      refine z_topi (y := (((znum T q2 q3).toNat : Nat) : Int)) (by omega) ?_
      refine z_callV (As := [.int (iI 1), .int (iI ((((znum T q2 q3).toNat : Nat) : Int)))]) (rest := []) (wc := [((B 0), .inr (5, [.ref ((B 1)), .ref ((B 2)), .int (iI ((q0 : Int))), .ref ((B 3)), .int (iI ((q1 : Int))), .ref ((B 4)), .ref ((B 5)), .int (iI ((q2 : Int))), .int (iI (((((q3 + 1) + znw T q2 (q3 + 1)) : Nat) : Int))), .int (iI ((q4 : Int))), .ref ((B 6)), .ref ((B 7)), .int (iI ((q5 : Int))), .int (iI ((q6 : Int))), .ref ((B 8)), .ref ((B 9)), .ref ((B 10)), .ref ((B 11)), .ref ((B 12)), .int (iI ((q7 : Int)))])), cI G (B 1) 1547 M]) (wr := [cI G (B 5) 60 T]) (fs := [.ref ((B 1)), .ref ((B 2)), .int (iI ((q0 : Int))), .ref ((B 3)), .int (iI ((q1 : Int))), .ref ((B 4)), .ref ((B 5)), .int (iI ((q2 : Int))), .int (iI (((((q3 + 1) + znw T q2 (q3 + 1)) : Nat) : Int))), .int (iI ((q4 : Int))), .ref ((B 6)), .ref ((B 7)), .int (iI ((q5 : Int))), .int (iI ((q6 : Int))), .ref ((B 8)), .ref ((B 9)), .ref ((B 10)), .ref ((B 11)), .ref ((B 12)), .int (iI ((q7 : Int)))]) (pc := 47) C dX5_sendsItem_47 (k_X5_putLevel_f l G B q0 q1 q2 ((q3 + 1) + znw T q2 (q3 + 1)) q4 q5 q6 q7 M 1 ((znum T q2 q3).toNat) s hs hM (by omega) (by omega)) gX5_sendsItem_X5_putLevel ⟨⟨_, rfl⟩, ⟨rfl, rfl⟩, nyX5_putLevel, ⟨Nat.le_of_ble_eq_true rfl, Nat.le_of_ble_eq_true rfl⟩⟩ rfl zCl5 rfl (fun h => h) rfl (Nat.le_of_ble_eq_true rfl) [0, 1] [2] rfl rfl (by decide) (by decide) (by decide) ⟨Nat.le_of_ble_eq_true rfl, Nat.le_of_ble_eq_true rfl⟩ (fun v w hk => ?_)
      obtain ⟨rfl, rfl⟩ := hk
      refine z_fix (pc2 := 50) (st2 := [.int (iI 0)]) (ws' := [((B 0), .inr (5, [.ref ((B 1)), .ref ((B 2)), .int (iI ((q0 : Int))), .ref ((B 3)), .int (iI ((q1 : Int))), .ref ((B 4)), .ref ((B 5)), .int (iI ((q2 : Int))), .int (iI (((((q3 + 1) + znw T q2 (q3 + 1)) : Nat) : Int))), .int (iI ((q4 : Int))), .ref ((B 6)), .ref ((B 7)), .int (iI ((q5 : Int))), .int (iI ((q6 : Int))), .ref ((B 8)), .ref ((B 9)), .ref ((B 10)), .ref ((B 11)), .ref ((B 12)), .int (iI ((q7 : Int)))])), cI G (B 1) 1547 M, cI G (B 5) 60 T]) [1, 2, 0] rfl rfl rfl (by decide) ?_
      exact z_zret (pc := 50) C R0 (by decide) dX5_sendsItem_50 (⟨_, rfl, rfl⟩)
  · refine z_iload_n (pc := 15) C dX5_sendsItem_15 0 rfl ?_
    refine z_bipush (pc := 16) C dX5_sendsItem_16 (by decide +kernel) ?_
    refine z_icmp_ne (tgt := 51) (pc := 18) C dX5_sendsItem_18 (by decide) ⟨by omega, by omega⟩ (by decide) (fun c18 => ?_) (fun c18 => ?_)
    · have hsg : ¬ (T q3 = 46 ∨ T q3 = 95) := by omega
      have hwb : 0 ≤ zdg (T q3) * 16 + zdg (zcx T q2 (q3 + 1)) ∧ zdg (T q3) * 16 + zdg (zcx T q2 (q3 + 1)) ≤ 255 := g4 hsg
      have hroom : 1500 - (s.2.2.2.1 : Int) < ztk s.2.2.1 := zitm_wn hsg hm
      refine z_bipush (pc := 51) C dX5_sendsItem_51 (by decide +kernel) ?_
      refine z_iload_n (pc := 53) C dX5_sendsItem_53 0 rfl ?_
      refine z_callS (As := [.int (iI ((T q3)))]) (rest := [.int (iI 16)]) (wc := []) (wr := [((B 0), .inr (5, [.ref ((B 1)), .ref ((B 2)), .int (iI ((q0 : Int))), .ref ((B 3)), .int (iI ((q1 : Int))), .ref ((B 4)), .ref ((B 5)), .int (iI ((q2 : Int))), .int (iI ((q3 : Int))), .int (iI ((q4 : Int))), .ref ((B 6)), .ref ((B 7)), .int (iI ((q5 : Int))), .int (iI ((q6 : Int))), .ref ((B 8)), .ref ((B 9)), .ref ((B 10)), .ref ((B 11)), .ref ((B 12)), .int (iI ((q7 : Int)))])), cI G (B 1) 1547 M, cI G (B 5) 60 T]) (pc := 54) C dX5_sendsItem_54 (k_X5_hex l G (T q3) ⟨by omega, by omega⟩) gX5_sendsItem_X5_hex ⟨⟨_, rfl⟩, ⟨rfl, rfl⟩, nyX5_hex, ⟨Nat.le_of_ble_eq_true rfl, Nat.le_of_ble_eq_true rfl⟩⟩ (fun h => h) rfl (Nat.le_of_ble_eq_true rfl) [] [0, 1, 2] rfl rfl (by decide) (by decide) (by decide) ⟨Nat.le_of_ble_eq_true rfl, Nat.le_of_ble_eq_true rfl⟩ (fun v w hk => ?_)
      obtain ⟨rfl, rfl⟩ := hk
      refine z_fix (pc2 := 57) (st2 := [.int (iI ((zdg (T q3)))), .int (iI 16)]) (ws' := [((B 0), .inr (5, [.ref ((B 1)), .ref ((B 2)), .int (iI ((q0 : Int))), .ref ((B 3)), .int (iI ((q1 : Int))), .ref ((B 4)), .ref ((B 5)), .int (iI ((q2 : Int))), .int (iI ((q3 : Int))), .int (iI ((q4 : Int))), .ref ((B 6)), .ref ((B 7)), .int (iI ((q5 : Int))), .int (iI ((q6 : Int))), .ref ((B 8)), .ref ((B 9)), .ref ((B 10)), .ref ((B 11)), .ref ((B 12)), .int (iI ((q7 : Int)))])), cI G (B 1) 1547 M, cI G (B 5) 60 T]) [0, 1, 2] rfl rfl rfl (by decide) ?_
      refine z_imul (pc := 57) C dX5_sendsItem_57 ?_
      refine z_aload_n (pc := 58) C dX5_sendsItem_58 1 rfl ?_
      refine z_aload_n (pc := 59) C dX5_sendsItem_59 1 rfl ?_
      refine z_get (pc := 60) C dX5_sendsItem_60 zCl5 ffX5_sendsItem_141 0 rfl rfl ?_
      refine z_iconst (pc := 63) C dX5_sendsItem_63 ?_
      refine z_iadd (pc := 64) C dX5_sendsItem_64 ?_
      refine z_callV (As := [.int (iI (((q3 : Int) + 1)))]) (rest := [.int (iI ((16 * (zdg (T q3)))))]) (wc := [((B 0), .inr (5, [.ref ((B 1)), .ref ((B 2)), .int (iI ((q0 : Int))), .ref ((B 3)), .int (iI ((q1 : Int))), .ref ((B 4)), .ref ((B 5)), .int (iI ((q2 : Int))), .int (iI ((q3 : Int))), .int (iI ((q4 : Int))), .ref ((B 6)), .ref ((B 7)), .int (iI ((q5 : Int))), .int (iI ((q6 : Int))), .ref ((B 8)), .ref ((B 9)), .ref ((B 10)), .ref ((B 11)), .ref ((B 12)), .int (iI ((q7 : Int)))])), cI G (B 5) 60 T]) (wr := [cI G (B 1) 1547 M]) (fs := [.ref ((B 1)), .ref ((B 2)), .int (iI ((q0 : Int))), .ref ((B 3)), .int (iI ((q1 : Int))), .ref ((B 4)), .ref ((B 5)), .int (iI ((q2 : Int))), .int (iI ((q3 : Int))), .int (iI ((q4 : Int))), .ref ((B 6)), .ref ((B 7)), .int (iI ((q5 : Int))), .int (iI ((q6 : Int))), .ref ((B 8)), .ref ((B 9)), .ref ((B 10)), .ref ((B 11)), .ref ((B 12)), .int (iI ((q7 : Int)))]) (pc := 65) C dX5_sendsItem_65 (k_X5_codeAt l G B q0 q1 q2 q3 q4 q5 q6 q7 T (q3 + 1) hn (by omega)) gX5_sendsItem_X5_codeAt ⟨⟨_, rfl⟩, ⟨rfl, rfl⟩, nyX5_codeAt, ⟨Nat.le_of_ble_eq_true rfl, Nat.le_of_ble_eq_true rfl⟩⟩ rfl zCl5 rfl (fun h => h) rfl (Nat.le_of_ble_eq_true rfl) [0, 2] [1] rfl rfl (by decide) (by decide) (by decide) ⟨Nat.le_of_ble_eq_true rfl, Nat.le_of_ble_eq_true rfl⟩ (fun v w hk => ?_)
      obtain ⟨rfl, rfl⟩ := hk
      refine z_fix (pc2 := 68) (st2 := [.int (iI ((zcx T q2 (q3 + 1)))), .int (iI ((16 * (zdg (T q3)))))]) (ws' := [((B 0), .inr (5, [.ref ((B 1)), .ref ((B 2)), .int (iI ((q0 : Int))), .ref ((B 3)), .int (iI ((q1 : Int))), .ref ((B 4)), .ref ((B 5)), .int (iI ((q2 : Int))), .int (iI ((q3 : Int))), .int (iI ((q4 : Int))), .ref ((B 6)), .ref ((B 7)), .int (iI ((q5 : Int))), .int (iI ((q6 : Int))), .ref ((B 8)), .ref ((B 9)), .ref ((B 10)), .ref ((B 11)), .ref ((B 12)), .int (iI ((q7 : Int)))])), cI G (B 1) 1547 M, cI G (B 5) 60 T]) [1, 0, 2] rfl rfl rfl (by decide) ?_
      refine z_callS (As := [.int (iI ((zcx T q2 (q3 + 1))))]) (rest := [.int (iI ((16 * (zdg (T q3)))))]) (wc := []) (wr := [((B 0), .inr (5, [.ref ((B 1)), .ref ((B 2)), .int (iI ((q0 : Int))), .ref ((B 3)), .int (iI ((q1 : Int))), .ref ((B 4)), .ref ((B 5)), .int (iI ((q2 : Int))), .int (iI ((q3 : Int))), .int (iI ((q4 : Int))), .ref ((B 6)), .ref ((B 7)), .int (iI ((q5 : Int))), .int (iI ((q6 : Int))), .ref ((B 8)), .ref ((B 9)), .ref ((B 10)), .ref ((B 11)), .ref ((B 12)), .int (iI ((q7 : Int)))])), cI G (B 1) 1547 M, cI G (B 5) 60 T]) (pc := 68) C dX5_sendsItem_68 (k_X5_hex l G (zcx T q2 (q3 + 1)) ⟨by omega, by omega⟩) gX5_sendsItem_X5_hex ⟨⟨_, rfl⟩, ⟨rfl, rfl⟩, nyX5_hex, ⟨Nat.le_of_ble_eq_true rfl, Nat.le_of_ble_eq_true rfl⟩⟩ (fun h => h) rfl (Nat.le_of_ble_eq_true rfl) [] [0, 1, 2] rfl rfl (by decide) (by decide) (by decide) ⟨Nat.le_of_ble_eq_true rfl, Nat.le_of_ble_eq_true rfl⟩ (fun v w hk => ?_)
      obtain ⟨rfl, rfl⟩ := hk
      refine z_fix (pc2 := 71) (st2 := [.int (iI ((zdg (zcx T q2 (q3 + 1))))), .int (iI ((16 * (zdg (T q3)))))]) (ws' := [((B 0), .inr (5, [.ref ((B 1)), .ref ((B 2)), .int (iI ((q0 : Int))), .ref ((B 3)), .int (iI ((q1 : Int))), .ref ((B 4)), .ref ((B 5)), .int (iI ((q2 : Int))), .int (iI ((q3 : Int))), .int (iI ((q4 : Int))), .ref ((B 6)), .ref ((B 7)), .int (iI ((q5 : Int))), .int (iI ((q6 : Int))), .ref ((B 8)), .ref ((B 9)), .ref ((B 10)), .ref ((B 11)), .ref ((B 12)), .int (iI ((q7 : Int)))])), cI G (B 1) 1547 M, cI G (B 5) 60 T]) [0, 1, 2] rfl rfl rfl (by decide) ?_
      refine z_iadd (pc := 71) C dX5_sendsItem_71 ?_
      refine z_topi (y := (((zdg (T q3) * 16 + zdg (zcx T q2 (q3 + 1))).toNat : Nat) : Int)) (by omega) ?_
      refine z_istore_n (lv' := [(2, .int (iI ((((zdg (T q3) * 16 + zdg (zcx T q2 (q3 + 1))).toNat : Nat) : Int)))), (1, .int (iI ((T q3)))), (0, .ref ((B 0)))]) (pc := 72) C dX5_sendsItem_72 (by decide) rfl ?_
      refine z_aload_n (pc := 73) C dX5_sendsItem_73 2 rfl ?_
      refine z_dup (pc := 74) C dX5_sendsItem_74 rfl ?_
      refine z_get (pc := 75) C dX5_sendsItem_75 zCl5 ffX5_sendsItem_141 0 rfl rfl ?_
      refine z_iconst (pc := 78) C dX5_sendsItem_78 ?_
      refine z_iadd (pc := 79) C dX5_sendsItem_79 ?_
      refine z_put (ty := .int) (ws' := [((B 0), .inr (5, [.ref ((B 1)), .ref ((B 2)), .int (iI ((q0 : Int))), .ref ((B 3)), .int (iI ((q1 : Int))), .ref ((B 4)), .ref ((B 5)), .int (iI ((q2 : Int))), .int (iI (((q3 : Int) + 2))), .int (iI ((q4 : Int))), .ref ((B 6)), .ref ((B 7)), .int (iI ((q5 : Int))), .int (iI ((q6 : Int))), .ref ((B 8)), .ref ((B 9)), .ref ((B 10)), .ref ((B 11)), .ref ((B 12)), .int (iI ((q7 : Int)))])), cI G (B 1) 1547 M, cI G (B 5) 60 T]) (pc := 80) C dX5_sendsItem_80 zCl5 ffX5_sendsItem_141 0 rfl rfl rfl rfl rfl (Nat.le_of_ble_eq_true rfl) rfl ?_
      refine z_aload_n (pc := 83) C dX5_sendsItem_83 2 rfl ?_
      refine z_iload_n (pc := 84) C dX5_sendsItem_84 0 rfl ?_
      refine z_callV (As := [.int (iI ((((zdg (T q3) * 16 + zdg (zcx T q2 (q3 + 1))).toNat : Nat) : Int)))]) (rest := []) (wc := [((B 0), .inr (5, [.ref ((B 1)), .ref ((B 2)), .int (iI ((q0 : Int))), .ref ((B 3)), .int (iI ((q1 : Int))), .ref ((B 4)), .ref ((B 5)), .int (iI ((q2 : Int))), .int (iI ((((q3 + 2) : Nat) : Int))), .int (iI ((q4 : Int))), .ref ((B 6)), .ref ((B 7)), .int (iI ((q5 : Int))), .int (iI ((q6 : Int))), .ref ((B 8)), .ref ((B 9)), .ref ((B 10)), .ref ((B 11)), .ref ((B 12)), .int (iI ((q7 : Int)))])), cI G (B 1) 1547 M]) (wr := [cI G (B 5) 60 T]) (fs := [.ref ((B 1)), .ref ((B 2)), .int (iI ((q0 : Int))), .ref ((B 3)), .int (iI ((q1 : Int))), .ref ((B 4)), .ref ((B 5)), .int (iI ((q2 : Int))), .int (iI ((((q3 + 2) : Nat) : Int))), .int (iI ((q4 : Int))), .ref ((B 6)), .ref ((B 7)), .int (iI ((q5 : Int))), .int (iI ((q6 : Int))), .ref ((B 8)), .ref ((B 9)), .ref ((B 10)), .ref ((B 11)), .ref ((B 12)), .int (iI ((q7 : Int)))]) (pc := 85) C dX5_sendsItem_85 (k_X5_putWord_f l G B q0 q1 q2 (q3 + 2) q4 q5 q6 q7 M ((zdg (T q3) * 16 + zdg (zcx T q2 (q3 + 1))).toNat) s hs hM (by omega) hroom) gX5_sendsItem_X5_putWord ⟨⟨_, rfl⟩, ⟨rfl, rfl⟩, nyX5_putWord, ⟨Nat.le_of_ble_eq_true rfl, Nat.le_of_ble_eq_true rfl⟩⟩ rfl zCl5 rfl (fun h => h) rfl (Nat.le_of_ble_eq_true rfl) [0, 1] [2] rfl rfl (by decide) (by decide) (by decide) ⟨Nat.le_of_ble_eq_true rfl, Nat.le_of_ble_eq_true rfl⟩ (fun v w hk => ?_)
      obtain ⟨rfl, rfl⟩ := hk
      refine z_fix (pc2 := 88) (st2 := [.int (iI 0)]) (ws' := [((B 0), .inr (5, [.ref ((B 1)), .ref ((B 2)), .int (iI ((q0 : Int))), .ref ((B 3)), .int (iI ((q1 : Int))), .ref ((B 4)), .ref ((B 5)), .int (iI ((q2 : Int))), .int (iI ((((q3 + 2) : Nat) : Int))), .int (iI ((q4 : Int))), .ref ((B 6)), .ref ((B 7)), .int (iI ((q5 : Int))), .int (iI ((q6 : Int))), .ref ((B 8)), .ref ((B 9)), .ref ((B 10)), .ref ((B 11)), .ref ((B 12)), .int (iI ((q7 : Int)))])), cI G (B 1) 1547 M, cI G (B 5) 60 T]) [1, 2, 0] rfl rfl rfl (by decide) ?_
      exact z_zret (pc := 88) C R0 (by decide) dX5_sendsItem_88 (⟨_, rfl, rfl⟩)
    · have hsg : T q3 = 46 ∨ T q3 = 95 := by omega
      obtain ⟨hnv, hnw⟩ := znum_x hf hlt ha hsg
      have hnb := g3 hsg
      have hroom : 1500 - (s.2.2.2.1 : Int) < znum T q2 q3 := zitm_sn hsg hm
      refine z_aload_n (pc := 21) C dX5_sendsItem_21 1 rfl ?_
      refine z_dup (pc := 22) C dX5_sendsItem_22 rfl ?_
      refine z_get (pc := 23) C dX5_sendsItem_23 zCl5 ffX5_sendsItem_141 0 rfl rfl ?_
      refine z_iconst (pc := 26) C dX5_sendsItem_26 ?_
      refine z_iadd (pc := 27) C dX5_sendsItem_27 ?_
      refine z_put (ty := .int) (ws' := [((B 0), .inr (5, [.ref ((B 1)), .ref ((B 2)), .int (iI ((q0 : Int))), .ref ((B 3)), .int (iI ((q1 : Int))), .ref ((B 4)), .ref ((B 5)), .int (iI ((q2 : Int))), .int (iI (((q3 : Int) + 1))), .int (iI ((q4 : Int))), .ref ((B 6)), .ref ((B 7)), .int (iI ((q5 : Int))), .int (iI ((q6 : Int))), .ref ((B 8)), .ref ((B 9)), .ref ((B 10)), .ref ((B 11)), .ref ((B 12)), .int (iI ((q7 : Int)))])), cI G (B 1) 1547 M, cI G (B 5) 60 T]) (pc := 28) C dX5_sendsItem_28 zCl5 ffX5_sendsItem_141 0 rfl rfl rfl rfl rfl (Nat.le_of_ble_eq_true rfl) rfl ?_
      refine z_aload_n (pc := 31) C dX5_sendsItem_31 1 rfl ?_
      refine z_iload_n (pc := 32) C dX5_sendsItem_32 0 rfl ?_
      refine z_bipush (pc := 33) C dX5_sendsItem_33 (by decide +kernel) ?_
      refine z_icmp_ne (tgt := 42) (pc := 35) C dX5_sendsItem_35 (by decide) ⟨by omega, by omega⟩ (by decide) (fun c35 => ?_) (fun c35 => ?_)
      · refine z_iconst (pc := 42) C dX5_sendsItem_42 ?_
        refine z_aload_n (pc := 43) C dX5_sendsItem_43 1 rfl ?_
        refine z_callV (As := []) (rest := [.int (iI 0), .ref ((B 0))]) (wc := [((B 0), .inr (5, [.ref ((B 1)), .ref ((B 2)), .int (iI ((q0 : Int))), .ref ((B 3)), .int (iI ((q1 : Int))), .ref ((B 4)), .ref ((B 5)), .int (iI ((q2 : Int))), .int (iI ((((q3 + 1) : Nat) : Int))), .int (iI ((q4 : Int))), .ref ((B 6)), .ref ((B 7)), .int (iI ((q5 : Int))), .int (iI ((q6 : Int))), .ref ((B 8)), .ref ((B 9)), .ref ((B 10)), .ref ((B 11)), .ref ((B 12)), .int (iI ((q7 : Int)))])), cI G (B 5) 60 T]) (wr := [cI G (B 1) 1547 M]) (fs := [.ref ((B 1)), .ref ((B 2)), .int (iI ((q0 : Int))), .ref ((B 3)), .int (iI ((q1 : Int))), .ref ((B 4)), .ref ((B 5)), .int (iI ((q2 : Int))), .int (iI ((((q3 + 1) : Nat) : Int))), .int (iI ((q4 : Int))), .ref ((B 6)), .ref ((B 7)), .int (iI ((q5 : Int))), .int (iI ((q6 : Int))), .ref ((B 8)), .ref ((B 9)), .ref ((B 10)), .ref ((B 11)), .ref ((B 12)), .int (iI ((q7 : Int)))]) (pc := 44) C dX5_sendsItem_44 (k_X5_readNumber l G B q0 q1 q2 (q3 + 1) q4 q5 q6 q7 T hT hn (by omega)) gX5_sendsItem_X5_readNumber ⟨⟨_, rfl⟩, ⟨rfl, rfl⟩, nyX5_readNumber, ⟨Nat.le_of_ble_eq_true rfl, Nat.le_of_ble_eq_true rfl⟩⟩ rfl zCl5 rfl (fun h => h) rfl (Nat.le_of_ble_eq_true rfl) [0, 2] [1] rfl rfl (by decide) (by decide) (by decide) ⟨Nat.le_of_ble_eq_true rfl, Nat.le_of_ble_eq_true rfl⟩ (fun v w hk => ?_)
        obtain ⟨rfl, rfl⟩ := hk
        refine z_fix (pc2 := 47) (st2 := [.int (iI ((znv T q2 (q3 + 1)))), .int (iI 0), .ref ((B 0))]) (ws' := [((B 0), .inr (5, [.ref ((B 1)), .ref ((B 2)), .int (iI ((q0 : Int))), .ref ((B 3)), .int (iI ((q1 : Int))), .ref ((B 4)), .ref ((B 5)), .int (iI ((q2 : Int))), .int (iI (((((q3 + 1) + znw T q2 (q3 + 1)) : Nat) : Int))), .int (iI ((q4 : Int))), .ref ((B 6)), .ref ((B 7)), .int (iI ((q5 : Int))), .int (iI ((q6 : Int))), .ref ((B 8)), .ref ((B 9)), .ref ((B 10)), .ref ((B 11)), .ref ((B 12)), .int (iI ((q7 : Int)))])), cI G (B 1) 1547 M, cI G (B 5) 60 T]) [1, 0, 2] rfl rfl rfl (by decide) ?_
        refine z_topi (y := (((znum T q2 q3).toNat : Nat) : Int)) (by omega) ?_
        refine z_callV (As := [.int (iI 0), .int (iI ((((znum T q2 q3).toNat : Nat) : Int)))]) (rest := []) (wc := [((B 0), .inr (5, [.ref ((B 1)), .ref ((B 2)), .int (iI ((q0 : Int))), .ref ((B 3)), .int (iI ((q1 : Int))), .ref ((B 4)), .ref ((B 5)), .int (iI ((q2 : Int))), .int (iI (((((q3 + 1) + znw T q2 (q3 + 1)) : Nat) : Int))), .int (iI ((q4 : Int))), .ref ((B 6)), .ref ((B 7)), .int (iI ((q5 : Int))), .int (iI ((q6 : Int))), .ref ((B 8)), .ref ((B 9)), .ref ((B 10)), .ref ((B 11)), .ref ((B 12)), .int (iI ((q7 : Int)))])), cI G (B 1) 1547 M]) (wr := [cI G (B 5) 60 T]) (fs := [.ref ((B 1)), .ref ((B 2)), .int (iI ((q0 : Int))), .ref ((B 3)), .int (iI ((q1 : Int))), .ref ((B 4)), .ref ((B 5)), .int (iI ((q2 : Int))), .int (iI (((((q3 + 1) + znw T q2 (q3 + 1)) : Nat) : Int))), .int (iI ((q4 : Int))), .ref ((B 6)), .ref ((B 7)), .int (iI ((q5 : Int))), .int (iI ((q6 : Int))), .ref ((B 8)), .ref ((B 9)), .ref ((B 10)), .ref ((B 11)), .ref ((B 12)), .int (iI ((q7 : Int)))]) (pc := 47) C dX5_sendsItem_47 (k_X5_putLevel_f l G B q0 q1 q2 ((q3 + 1) + znw T q2 (q3 + 1)) q4 q5 q6 q7 M 0 ((znum T q2 q3).toNat) s hs hM (by omega) (by omega)) gX5_sendsItem_X5_putLevel ⟨⟨_, rfl⟩, ⟨rfl, rfl⟩, nyX5_putLevel, ⟨Nat.le_of_ble_eq_true rfl, Nat.le_of_ble_eq_true rfl⟩⟩ rfl zCl5 rfl (fun h => h) rfl (Nat.le_of_ble_eq_true rfl) [0, 1] [2] rfl rfl (by decide) (by decide) (by decide) ⟨Nat.le_of_ble_eq_true rfl, Nat.le_of_ble_eq_true rfl⟩ (fun v w hk => ?_)
        obtain ⟨rfl, rfl⟩ := hk
        refine z_fix (pc2 := 50) (st2 := [.int (iI 0)]) (ws' := [((B 0), .inr (5, [.ref ((B 1)), .ref ((B 2)), .int (iI ((q0 : Int))), .ref ((B 3)), .int (iI ((q1 : Int))), .ref ((B 4)), .ref ((B 5)), .int (iI ((q2 : Int))), .int (iI (((((q3 + 1) + znw T q2 (q3 + 1)) : Nat) : Int))), .int (iI ((q4 : Int))), .ref ((B 6)), .ref ((B 7)), .int (iI ((q5 : Int))), .int (iI ((q6 : Int))), .ref ((B 8)), .ref ((B 9)), .ref ((B 10)), .ref ((B 11)), .ref ((B 12)), .int (iI ((q7 : Int)))])), cI G (B 1) 1547 M, cI G (B 5) 60 T]) [1, 2, 0] rfl rfl rfl (by decide) ?_
        exact z_zret (pc := 50) C R0 (by decide) dX5_sendsItem_50 (⟨_, rfl, rfl⟩)
      · exfalso; omega
