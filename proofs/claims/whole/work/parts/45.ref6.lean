/-! THE REFERENCE, walked: all that is received -/
theorem zcn_pre {P : ZIt → Bool} {L : List ZIt} {it : ZIt} : ∀ n, n ≤ L.length → zcn P (L ++ [it]) n = zcn P L n
  | 0, _ => rfl
  | n + 1, h => by
    show zcn P (L ++ [it]) n + _ = zcn P L n + _
    rw [zcn_pre n (by omega), List.getElem?_append_left (by omega)]
theorem zds_pre {L : List ZIt} {it : ZIt} : ∀ n, n ≤ L.length → zds (L ++ [it]) n = zds L n
  | 0, _ => rfl
  | n + 1, h => by
    show zds (L ++ [it]) n + _ = zds L n + _
    rw [zds_pre n (by omega), List.getElem?_append_left (by omega)]
theorem zds_app (L : List ZIt) (it : ZIt) : zds (L ++ [it]) (L ++ [it]).length = zds L L.length + it.2.2.2.1 := by
  rw [List.length_append]
  show zds (L ++ [it]) (L.length + 1) = _
  rw [zds_s (it := it) (by rw [List.getElem?_append_right (Nat.le_refl _), Nat.sub_self]; rfl), zds_pre _ (Nat.le_refl _)]

theorem ffX5_receive_109 : zFF wsX5_receive RX5 109 RX5 TX5 20 12 := ⟨by decide +kernel, by decide, by decide +kernel⟩
theorem ffX5_receive_115 : zFF wsX5_receive RX5 115 RX5 TX5 20 13 := ⟨by decide +kernel, by decide, by decide +kernel⟩
theorem ffX5_receive_118 : zFF wsX5_receive RX5 118 RX5 TX5 20 19 := ⟨by decide +kernel, by decide, by decide +kernel⟩
theorem ffX5_receive_7 : zFF wsX5_receive RX5 7 RX5 TX5 20 0 := ⟨by decide +kernel, by decide, by decide +kernel⟩
theorem nyX5_tells : yX5_tells.cls ≠ "java/lang/invoke/MethodHandle" ∧ yX5_tells.cls ≠ "java/lang/invoke/VarHandle" ∧ (parseMethodDescriptor yX5_tells.desc).map (fun d => d.parameters.length) = some 2 := by decide +kernel
theorem ffX5_receive_43 : zFF wsX5_receive RX5 43 RX5 TX5 20 18 := ⟨by decide +kernel, by decide, by decide +kernel⟩
theorem ffX5_receive_40 : zFF wsX5_receive RX5 40 RX5 TX5 20 17 := ⟨by decide +kernel, by decide, by decide +kernel⟩
theorem ffX5_receive_31 : zFF wsX5_receive RX5 31 RX5 TX5 20 14 := ⟨by decide +kernel, by decide, by decide +kernel⟩
set_option maxHeartbeats 4000000 in
set_option maxRecDepth 100000 in
theorem k_X5_receive (l : Launch) (G : ZG) (B : Nat → Nat) (q0 q1 q2 q3 q4 q5 q6 q7 : Nat) (M K0 K1 K2 K3 K4 : Nat → Int) (r : Nat) (s : ZS) (hs : zIs s) (hM : zMs M s) (hr : 4 ≤ r ∧ r ≤ 40) : Kt l G yX5_receive wsX5_receive { frames := 3, cells := 0, slots := 0, locals := 75 } 0 0 False [.ref ((B 0)), .int (iI ((r : Int)))] [((B 0), .inr (5, [.ref ((B 1)), .ref ((B 2)), .int (iI ((q0 : Int))), .ref ((B 3)), .int (iI ((q1 : Int))), .ref ((B 4)), .ref ((B 5)), .int (iI ((q2 : Int))), .int (iI ((q3 : Int))), .int (iI ((q4 : Int))), .ref ((B 6)), .ref ((B 7)), .int (iI ((q5 : Int))), .int (iI ((q6 : Int))), .ref ((B 8)), .ref ((B 9)), .ref ((B 10)), .ref ((B 11)), .ref ((B 12)), .int (iI ((q7 : Int)))])), cI G (B 1) 1547 M, cI G (B 8) 64 K0, cI G (B 9) 64 K1, cI G (B 10) 64 K2, cI G (B 11) 64 K3, cI G (B 12) 64 K4] (fun v9 w9 => ∃ (N0 : Nat → Int) (N1 : Nat → Int) (N2 : Nat → Int) (N3 : Nat → Int) (N4 : Nat → Int), (zho N0 N1 N2 N3 N4 (zitems s r)) ∧ v9 = none ∧ w9 = [((B 0), .inr (5, [.ref ((B 1)), .ref ((B 2)), .int (iI ((q0 : Int))), .ref ((B 3)), .int (iI ((q1 : Int))), .ref ((B 4)), .ref ((B 5)), .int (iI ((q2 : Int))), .int (iI ((q3 : Int))), .int (iI ((q4 : Int))), .ref ((B 6)), .ref ((B 7)), .int (iI ((((zitems s r).length : Nat) : Int))), .int (iI ((((zfls s.1 s.2.2.1 s.2.2.2.1 r) : Nat) : Int))), .ref ((B 8)), .ref ((B 9)), .ref ((B 10)), .ref ((B 11)), .ref ((B 12)), .int (iI ((((zds (zitems s r) (zitems s r).length) : Nat) : Int)))])), cI G (B 1) 1547 M, cI G (B 8) 64 N0, cI G (B 9) 64 N1, cI G (B 10) 64 N2, cI G (B 11) 64 N3, cI G (B 12) 64 N4]) := by
  refine Kt.of (cc := cX5_receive) (nL := 3) (ret := none) (own := RX5) rfl (by decide +kernel) rfl (Nat.le_of_ble_eq_true rfl) ?_
  intro X Y C R0 hin
  show Z l X G Y 3 0 0 0 [(0, .ref ((B 0))), (1, .int (iI ((r : Int))))] [] [((B 0), .inr (5, [.ref ((B 1)), .ref ((B 2)), .int (iI ((q0 : Int))), .ref ((B 3)), .int (iI ((q1 : Int))), .ref ((B 4)), .ref ((B 5)), .int (iI ((q2 : Int))), .int (iI ((q3 : Int))), .int (iI ((q4 : Int))), .ref ((B 6)), .ref ((B 7)), .int (iI ((q5 : Int))), .int (iI ((q6 : Int))), .ref ((B 8)), .ref ((B 9)), .ref ((B 10)), .ref ((B 11)), .ref ((B 12)), .int (iI ((q7 : Int)))])), cI G (B 1) 1547 M, cI G (B 8) 64 K0, cI G (B 9) 64 K1, cI G (B 10) 64 K2, cI G (B 11) 64 K3, cI G (B 12) 64 K4]
  obtain ⟨m0, m1, m2, m3, m4, m5, m6, he, hk⟩ := zMs_r hs hM
  refine z_aload_n (pc := 0) C dX5_receive_0 0 rfl ?_
  refine z_iconst (pc := 1) C dX5_receive_1 ?_
  refine z_put (ty := .int) (ws' := [((B 0), .inr (5, [.ref ((B 1)), .ref ((B 2)), .int (iI ((q0 : Int))), .ref ((B 3)), .int (iI ((q1 : Int))), .ref ((B 4)), .ref ((B 5)), .int (iI ((q2 : Int))), .int (iI ((q3 : Int))), .int (iI ((q4 : Int))), .ref ((B 6)), .ref ((B 7)), .int (iI 0), .int (iI ((q6 : Int))), .ref ((B 8)), .ref ((B 9)), .ref ((B 10)), .ref ((B 11)), .ref ((B 12)), .int (iI ((q7 : Int)))])), cI G (B 1) 1547 M, cI G (B 8) 64 K0, cI G (B 9) 64 K1, cI G (B 10) 64 K2, cI G (B 11) 64 K3, cI G (B 12) 64 K4]) (pc := 2) C dX5_receive_2 zCl5 ffX5_receive_109 0 rfl rfl rfl rfl rfl (Nat.le_of_ble_eq_true rfl) rfl ?_
  refine z_aload_n (pc := 5) C dX5_receive_5 0 rfl ?_
  refine z_iconst (pc := 6) C dX5_receive_6 ?_
  refine z_put (ty := .int) (ws' := [((B 0), .inr (5, [.ref ((B 1)), .ref ((B 2)), .int (iI ((q0 : Int))), .ref ((B 3)), .int (iI ((q1 : Int))), .ref ((B 4)), .ref ((B 5)), .int (iI ((q2 : Int))), .int (iI ((q3 : Int))), .int (iI ((q4 : Int))), .ref ((B 6)), .ref ((B 7)), .int (iI 0), .int (iI 0), .ref ((B 8)), .ref ((B 9)), .ref ((B 10)), .ref ((B 11)), .ref ((B 12)), .int (iI ((q7 : Int)))])), cI G (B 1) 1547 M, cI G (B 8) 64 K0, cI G (B 9) 64 K1, cI G (B 10) 64 K2, cI G (B 11) 64 K3, cI G (B 12) 64 K4]) (pc := 7) C dX5_receive_7 zCl5 ffX5_receive_115 0 rfl rfl rfl rfl rfl (Nat.le_of_ble_eq_true rfl) rfl ?_
  refine z_aload_n (pc := 10) C dX5_receive_10 0 rfl ?_
  refine z_iconst (pc := 11) C dX5_receive_11 ?_
  refine z_put (ty := .int) (ws' := [((B 0), .inr (5, [.ref ((B 1)), .ref ((B 2)), .int (iI ((q0 : Int))), .ref ((B 3)), .int (iI ((q1 : Int))), .ref ((B 4)), .ref ((B 5)), .int (iI ((q2 : Int))), .int (iI ((q3 : Int))), .int (iI ((q4 : Int))), .ref ((B 6)), .ref ((B 7)), .int (iI 0), .int (iI 0), .ref ((B 8)), .ref ((B 9)), .ref ((B 10)), .ref ((B 11)), .ref ((B 12)), .int (iI 0)])), cI G (B 1) 1547 M, cI G (B 8) 64 K0, cI G (B 9) 64 K1, cI G (B 10) 64 K2, cI G (B 11) 64 K3, cI G (B 12) 64 K4]) (pc := 12) C dX5_receive_12 zCl5 ffX5_receive_118 0 rfl rfl rfl rfl rfl (Nat.le_of_ble_eq_true rfl) rfl ?_
  refine z_iconst (pc := 15) C dX5_receive_15 ?_
  refine z_istore_n (lv' := [(2, .int (iI 0)), (0, .ref ((B 0))), (1, .int (iI ((r : Int))))]) (pc := 16) C dX5_receive_16 (by decide) rfl ?_
  have L17 : ∀ (n : Nat) (t f : Nat) (L : List ZIt) (K0 K1 K2 K3 K4 : Nat → Int), 3001 < t + n → 39 * L.length ≤ t → f ≤ t → t ≤ 3000 → zho K0 K1 K2 K3 K4 L → L ++ (zrc s.1 s.2.2.1 s.2.2.2.1 r (s.2.2.2.1 + 1) t).1 = zitems s r → f + (zrc s.1 s.2.2.1 s.2.2.2.1 r (s.2.2.2.1 + 1) t).2 = zfls s.1 s.2.2.1 s.2.2.2.1 r → Z l X G Y 3 0 0 17 [(0, .ref ((B 0))), (1, .int (iI ((r : Int)))), (2, .int (iI ((t : Int))))] [] [((B 0), .inr (5, [.ref ((B 1)), .ref ((B 2)), .int (iI ((q0 : Int))), .ref ((B 3)), .int (iI ((q1 : Int))), .ref ((B 4)), .ref ((B 5)), .int (iI ((q2 : Int))), .int (iI ((q3 : Int))), .int (iI ((q4 : Int))), .ref ((B 6)), .ref ((B 7)), .int (iI (((L.length : Nat) : Int))), .int (iI ((f : Int))), .ref ((B 8)), .ref ((B 9)), .ref ((B 10)), .ref ((B 11)), .ref ((B 12)), .int (iI ((((zds L L.length) : Nat) : Int)))])), cI G (B 1) 1547 M, cI G (B 8) 64 K0, cI G (B 9) 64 K1, cI G (B 10) 64 K2, cI G (B 11) 64 K3, cI G (B 12) 64 K4] := by
    intro n
    induction n with
    | zero => intro t f L K0 K1 K2 K3 K4 hn hl hf ht hK hA hB; exact absurd hn (by omega)
    | succ n ih =>
      intro t f L K0 K1 K2 K3 K4 hn hl hf ht hK hA hB
      refine z_iload_n (pc := 17) C dX5_receive_17 2 rfl ?_
      refine z_aload_n (pc := 18) C dX5_receive_18 0 rfl ?_
      refine z_get (pc := 19) C dX5_receive_19 zCl5 ffX5_receive_7 0 rfl rfl ?_
      refine z_iconst (pc := 22) C dX5_receive_22 ?_
      refine z_iald (pc := 23) C dX5_receive_23 1 rfl (5) (rfl) (by omega) (by decide) ?_
      refine z_icmp_ge (tgt := 143) (pc := 24) C dX5_receive_24 (by decide) ⟨by omega, by omega⟩ ⟨by omega, by omega⟩ (fun c24 => ?_) (fun c24 => ?_)
      · have hend := zrc_end (b := s.1) (S := s.2.2.1) (r := r) (n := s.2.2.2.1 + 1) (show s.2.2.2.1 ≤ znf s.1 s.2.2.2.1 t by rw [znf_end (by omega)]; exact Nat.le_refl _)
        rw [hend] at hA hB
        rw [List.append_nil] at hA
        subst hA
        have hB2 : f = zfls s.1 s.2.2.1 s.2.2.2.1 r := hB
        subst hB2
        exact z_vret (pc := 143) C R0 dX5_receive_143 (⟨_, _, _, _, _, hK, rfl, rfl⟩)
      · refine z_aload_n (pc := 27) C dX5_receive_27 0 rfl ?_
        refine z_iload_n (pc := 28) C dX5_receive_28 2 rfl ?_
        refine z_callV (As := [.int (iI ((t : Int)))]) (rest := []) (wc := [((B 0), .inr (5, [.ref ((B 1)), .ref ((B 2)), .int (iI ((q0 : Int))), .ref ((B 3)), .int (iI ((q1 : Int))), .ref ((B 4)), .ref ((B 5)), .int (iI ((q2 : Int))), .int (iI ((q3 : Int))), .int (iI ((q4 : Int))), .ref ((B 6)), .ref ((B 7)), .int (iI (((L.length : Nat) : Int))), .int (iI ((f : Int))), .ref ((B 8)), .ref ((B 9)), .ref ((B 10)), .ref ((B 11)), .ref ((B 12)), .int (iI ((((zds L L.length) : Nat) : Int)))])), cI G (B 1) 1547 M]) (wr := [cI G (B 8) 64 K0, cI G (B 9) 64 K1, cI G (B 10) 64 K2, cI G (B 11) 64 K3, cI G (B 12) 64 K4]) (fs := [.ref ((B 1)), .ref ((B 2)), .int (iI ((q0 : Int))), .ref ((B 3)), .int (iI ((q1 : Int))), .ref ((B 4)), .ref ((B 5)), .int (iI ((q2 : Int))), .int (iI ((q3 : Int))), .int (iI ((q4 : Int))), .ref ((B 6)), .ref ((B 7)), .int (iI (((L.length : Nat) : Int))), .int (iI ((f : Int))), .ref ((B 8)), .ref ((B 9)), .ref ((B 10)), .ref ((B 11)), .ref ((B 12)), .int (iI ((((zds L L.length) : Nat) : Int)))]) (pc := 29) C dX5_receive_29 (k_X5_isFall l G B q0 q1 q2 q3 q4 L.length f (zds L L.length) M t s hs hM (by omega)) gX5_receive_X5_isFall ⟨⟨_, rfl⟩, ⟨rfl, rfl⟩, nyX5_isFall, ⟨Nat.le_of_ble_eq_true rfl, Nat.le_of_ble_eq_true rfl⟩⟩ rfl zCl5 rfl (fun h => h) rfl (Nat.le_of_ble_eq_true rfl) [0, 1] [2, 3, 4, 5, 6] rfl rfl (by decide) (by decide) (by decide) ⟨Nat.le_of_ble_eq_true rfl, Nat.le_of_ble_eq_true rfl⟩ (fun v w hk => ?_)
        obtain ⟨rfl, rfl⟩ := hk
        refine z_fix (pc2 := 32) (st2 := [.int (iI ((zB (zfall s.1 t))))]) (ws' := [((B 0), .inr (5, [.ref ((B 1)), .ref ((B 2)), .int (iI ((q0 : Int))), .ref ((B 3)), .int (iI ((q1 : Int))), .ref ((B 4)), .ref ((B 5)), .int (iI ((q2 : Int))), .int (iI ((q3 : Int))), .int (iI ((q4 : Int))), .ref ((B 6)), .ref ((B 7)), .int (iI (((L.length : Nat) : Int))), .int (iI ((f : Int))), .ref ((B 8)), .ref ((B 9)), .ref ((B 10)), .ref ((B 11)), .ref ((B 12)), .int (iI ((((zds L L.length) : Nat) : Int)))])), cI G (B 1) 1547 M, cI G (B 8) 64 K0, cI G (B 9) 64 K1, cI G (B 10) 64 K2, cI G (B 11) 64 K3, cI G (B 12) 64 K4]) [5, 6, 0, 1, 2, 3, 4] rfl rfl rfl (by decide) ?_
        refine z_if_ne (tgt := 41) (pc := 32) C dX5_receive_32 (by decide) ⟨Int.le_trans (by decide) (zB_b _).1, Int.le_trans (zB_b _).2 (by decide)⟩ (fun c32 => ?_) (fun c32 => ?_)
        · have hlt : t < s.2.2.2.1 := by omega
          have hft := zfall_t c32
          have hnf : znf s.1 s.2.2.2.1 t = t := znf_fall hlt hft
          have hzi := zit_b (b := s.1) (S := s.2.2.1) (t := t) (by omega) hr
          have hzl := zlast_b (S := s.2.2.1) (t := t) hr
          have hzg := zgo_b (b := s.1) (S := s.2.2.1) (t := t) hr
          by_cases hv : zvo s.1 (s.2.2.1 4) t r = 1
          · have hA2 : L ++ (zrc s.1 s.2.2.1 s.2.2.2.1 r (s.2.2.2.1 + 1) (t + 2 * r / 3 + 1)).1 = zitems s r ∧ (f + 1) + (zrc s.1 s.2.2.1 s.2.2.2.1 r (s.2.2.2.1 + 1) (t + 2 * r / 3 + 1)).2 = zfls s.1 s.2.2.1 s.2.2.2.1 r := by
              rw [zrc_false (by rw [hnf]; exact hlt) (by rw [hnf]; exact hv), hnf, zrc_more hr s.2.2.2.1 (s.2.2.2.1 + 1) _ (by omega) (by omega)] at hA hB
              exact ⟨hA, by omega⟩
            refine z_aload_n (pc := 41) C dX5_receive_41 0 rfl ?_
            refine z_iload_n (pc := 42) C dX5_receive_42 2 rfl ?_
            refine z_iload_n (pc := 43) C dX5_receive_43 1 rfl ?_
            refine z_callV (As := [.int (iI ((t : Int))), .int (iI ((r : Int)))]) (rest := []) (wc := [((B 0), .inr (5, [.ref ((B 1)), .ref ((B 2)), .int (iI ((q0 : Int))), .ref ((B 3)), .int (iI ((q1 : Int))), .ref ((B 4)), .ref ((B 5)), .int (iI ((q2 : Int))), .int (iI ((q3 : Int))), .int (iI ((q4 : Int))), .ref ((B 6)), .ref ((B 7)), .int (iI (((L.length : Nat) : Int))), .int (iI ((f : Int))), .ref ((B 8)), .ref ((B 9)), .ref ((B 10)), .ref ((B 11)), .ref ((B 12)), .int (iI ((((zds L L.length) : Nat) : Int)))])), cI G (B 1) 1547 M, cI G (B 8) 64 K0, cI G (B 9) 64 K1, cI G (B 10) 64 K2, cI G (B 11) 64 K3, cI G (B 12) 64 K4]) (wr := []) (fs := [.ref ((B 1)), .ref ((B 2)), .int (iI ((q0 : Int))), .ref ((B 3)), .int (iI ((q1 : Int))), .ref ((B 4)), .ref ((B 5)), .int (iI ((q2 : Int))), .int (iI ((q3 : Int))), .int (iI ((q4 : Int))), .ref ((B 6)), .ref ((B 7)), .int (iI (((L.length : Nat) : Int))), .int (iI ((f : Int))), .ref ((B 8)), .ref ((B 9)), .ref ((B 10)), .ref ((B 11)), .ref ((B 12)), .int (iI ((((zds L L.length) : Nat) : Int)))]) (pc := 44) C dX5_receive_44 (k_X5_tells_f l G B q0 q1 q2 q3 q4 L.length f (zds L L.length) M K0 K1 K2 K3 K4 t r s hs hM (by omega) hr (by omega) hv) gX5_receive_X5_tells ⟨⟨_, rfl⟩, ⟨rfl, rfl⟩, nyX5_tells, ⟨Nat.le_of_ble_eq_true rfl, Nat.le_of_ble_eq_true rfl⟩⟩ rfl zCl5 rfl (fun h => h) rfl (Nat.le_of_ble_eq_true rfl) [0, 1, 2, 3, 4, 5, 6] [] rfl rfl (by decide) (by decide) (by decide) ⟨Nat.le_of_ble_eq_true rfl, Nat.le_of_ble_eq_true rfl⟩ (fun v w hk => ?_)
            obtain ⟨N3_44, h44_0, rfl, rfl⟩ := hk
            refine z_fix (pc2 := 47) (st2 := [.int (iI 0)]) (ws' := [((B 0), .inr (5, [.ref ((B 1)), .ref ((B 2)), .int (iI ((q0 : Int))), .ref ((B 3)), .int (iI ((q1 : Int))), .ref ((B 4)), .ref ((B 5)), .int (iI ((q2 : Int))), .int (iI ((q3 : Int))), .int (iI ((q4 : Int))), .ref ((B 6)), .ref ((B 7)), .int (iI (((L.length : Nat) : Int))), .int (iI ((f : Int))), .ref ((B 8)), .ref ((B 9)), .ref ((B 10)), .ref ((B 11)), .ref ((B 12)), .int (iI ((((zds L L.length) : Nat) : Int)))])), cI G (B 1) 1547 M, cI G (B 8) 64 K0, cI G (B 9) 64 K1, cI G (B 10) 64 K2, cI G (B 11) 64 N3_44, cI G (B 12) 64 K4]) [0, 1, 2, 3, 4, 5, 6] rfl rfl rfl (by decide) ?_
            refine z_if_eq (tgt := 120) (pc := 47) C dX5_receive_47 (by decide) (by decide) (fun c47 => ?_) (fun c47 => ?_)
            · refine z_aload_n (pc := 120) C dX5_receive_120 0 rfl ?_
              refine z_dup (pc := 121) C dX5_receive_121 rfl ?_
              refine z_get (pc := 122) C dX5_receive_122 zCl5 ffX5_receive_115 0 rfl rfl ?_
              refine z_iconst (pc := 125) C dX5_receive_125 ?_
              refine z_iadd (pc := 126) C dX5_receive_126 ?_
              refine z_put (ty := .int) (ws' := [((B 0), .inr (5, [.ref ((B 1)), .ref ((B 2)), .int (iI ((q0 : Int))), .ref ((B 3)), .int (iI ((q1 : Int))), .ref ((B 4)), .ref ((B 5)), .int (iI ((q2 : Int))), .int (iI ((q3 : Int))), .int (iI ((q4 : Int))), .ref ((B 6)), .ref ((B 7)), .int (iI (((L.length : Nat) : Int))), .int (iI (((f : Int) + 1))), .ref ((B 8)), .ref ((B 9)), .ref ((B 10)), .ref ((B 11)), .ref ((B 12)), .int (iI ((((zds L L.length) : Nat) : Int)))])), cI G (B 1) 1547 M, cI G (B 8) 64 K0, cI G (B 9) 64 K1, cI G (B 10) 64 K2, cI G (B 11) 64 N3_44, cI G (B 12) 64 K4]) (pc := 127) C dX5_receive_127 zCl5 ffX5_receive_115 0 rfl rfl rfl rfl rfl (Nat.le_of_ble_eq_true rfl) rfl ?_
              refine z_iload_n (pc := 130) C dX5_receive_130 2 rfl ?_
              refine z_iconst (pc := 131) C dX5_receive_131 ?_
              refine z_iload_n (pc := 132) C dX5_receive_132 1 rfl ?_
              refine z_imul (pc := 133) C dX5_receive_133 ?_
              refine z_iconst (pc := 134) C dX5_receive_134 ?_
              refine z_idiv (pc := 135) C dX5_receive_135 ⟨by omega, by omega⟩ (by decide) ?_
              refine z_iconst (pc := 136) C dX5_receive_136 ?_
              refine z_iadd (pc := 137) C dX5_receive_137 ?_
              refine z_iadd (pc := 138) C dX5_receive_138 ?_
              refine z_istore_n (lv' := [(2, .int (iI (((t : Int) + (((2 * (r : Int)) / 3) + 1))))), (0, .ref ((B 0))), (1, .int (iI ((r : Int))))]) (pc := 139) C dX5_receive_139 (by decide) rfl ?_
              refine z_goto (tgt := 17) (pc := 140) C dX5_receive_140 (by decide) ?_
              refine z_lv (lv' := [(0, .ref ((B 0))), (1, .int (iI ((r : Int)))), (2, .int (iI (((t : Int) + (((2 * (r : Int)) / 3) + 1)))))]) [1, 2, 0] rfl ?_
              refine z_eq rfl (lv2 := [(0, .ref ((B 0))), (1, .int (iI ((r : Int)))), (2, .int (iI ((((t + 2 * r / 3 + 1) : Nat) : Int))))]) (by rw [show (t : Int) + (2 * (r : Int) / 3 + 1) = ((t + 2 * r / 3 + 1 : Nat) : Int) by omega]; first | done | rfl) rfl rfl ?_
              exact ih (t + 2 * r / 3 + 1) (f + 1) L K0 K1 K2 N3_44 K4 (by omega) (by omega) (by omega) (by omega) (zho_u3 hK h44_0) hA2.1 hA2.2
            · exfalso; omega
          · have hA2 : L ++ ((zit s.1 s.2.2.1 t r) :: (zrc s.1 s.2.2.1 s.2.2.2.1 r (s.2.2.2.1 + 1) (zgo s.1 s.2.2.1 t r)).1) = zitems s r ∧ f + (zrc s.1 s.2.2.1 s.2.2.2.1 r (s.2.2.2.1 + 1) (zgo s.1 s.2.2.1 t r)).2 = zfls s.1 s.2.2.1 s.2.2.2.1 r := by
              rw [zrc_item (by rw [hnf]; exact hlt) (by rw [hnf]; exact hv), hnf, zrc_more hr s.2.2.2.1 (s.2.2.2.1 + 1) _ (by omega) (by omega)] at hA hB
              exact ⟨hA, hB⟩
            refine z_aload_n (pc := 41) C dX5_receive_41 0 rfl ?_
            refine z_iload_n (pc := 42) C dX5_receive_42 2 rfl ?_
            refine z_iload_n (pc := 43) C dX5_receive_43 1 rfl ?_
            refine z_callV (As := [.int (iI ((t : Int))), .int (iI ((r : Int)))]) (rest := []) (wc := [((B 0), .inr (5, [.ref ((B 1)), .ref ((B 2)), .int (iI ((q0 : Int))), .ref ((B 3)), .int (iI ((q1 : Int))), .ref ((B 4)), .ref ((B 5)), .int (iI ((q2 : Int))), .int (iI ((q3 : Int))), .int (iI ((q4 : Int))), .ref ((B 6)), .ref ((B 7)), .int (iI (((L.length : Nat) : Int))), .int (iI ((f : Int))), .ref ((B 8)), .ref ((B 9)), .ref ((B 10)), .ref ((B 11)), .ref ((B 12)), .int (iI ((((zds L L.length) : Nat) : Int)))])), cI G (B 1) 1547 M, cI G (B 8) 64 K0, cI G (B 9) 64 K1, cI G (B 10) 64 K2, cI G (B 11) 64 K3, cI G (B 12) 64 K4]) (wr := []) (fs := [.ref ((B 1)), .ref ((B 2)), .int (iI ((q0 : Int))), .ref ((B 3)), .int (iI ((q1 : Int))), .ref ((B 4)), .ref ((B 5)), .int (iI ((q2 : Int))), .int (iI ((q3 : Int))), .int (iI ((q4 : Int))), .ref ((B 6)), .ref ((B 7)), .int (iI (((L.length : Nat) : Int))), .int (iI ((f : Int))), .ref ((B 8)), .ref ((B 9)), .ref ((B 10)), .ref ((B 11)), .ref ((B 12)), .int (iI ((((zds L L.length) : Nat) : Int)))]) (pc := 44) C dX5_receive_44 (k_X5_tells_i l G B q0 q1 q2 q3 q4 L.length f (zds L L.length) M K0 K1 K2 K3 K4 t r s hs hM (by omega) hr (by omega) hv) gX5_receive_X5_tells ⟨⟨_, rfl⟩, ⟨rfl, rfl⟩, nyX5_tells, ⟨Nat.le_of_ble_eq_true rfl, Nat.le_of_ble_eq_true rfl⟩⟩ rfl zCl5 rfl (fun h => h) rfl (Nat.le_of_ble_eq_true rfl) [0, 1, 2, 3, 4, 5, 6] [] rfl rfl (by decide) (by decide) (by decide) ⟨Nat.le_of_ble_eq_true rfl, Nat.le_of_ble_eq_true rfl⟩ (fun v w hk => ?_)
            obtain ⟨rfl, rfl⟩ := hk
            refine z_fix (pc2 := 47) (st2 := [.int (iI 1)]) (ws' := [((B 0), .inr (5, [.ref ((B 1)), .ref ((B 2)), .int (iI ((q0 : Int))), .ref ((B 3)), .int (iI ((q1 : Int))), .ref ((B 4)), .ref ((B 5)), .int (iI ((q2 : Int))), .int (iI ((q3 : Int))), .int (iI ((q4 : Int))), .ref ((B 6)), .ref ((B 7)), .int (iI (((L.length : Nat) : Int))), .int (iI ((f : Int))), .ref ((B 8)), .ref ((B 9)), .ref ((B 10)), .ref ((B 11)), .ref ((B 12)), .int (iI ((((zds L L.length) : Nat) : Int)))])), cI G (B 1) 1547 M, cI G (B 8) 64 (zU K0 L.length (zit s.1 s.2.2.1 t r).1), cI G (B 9) 64 (zU K1 L.length (((zit s.1 s.2.2.1 t r).2.1 : Nat) : Int)), cI G (B 10) 64 (zU K2 L.length (((zit s.1 s.2.2.1 t r).2.2.1 : Nat) : Int)), cI G (B 11) 64 (zU K3 L.length (((zit s.1 s.2.2.1 t r).2.2.2.1 : Nat) : Int)), cI G (B 12) 64 (zU K4 L.length (((zit s.1 s.2.2.1 t r).2.2.2.2 : Nat) : Int))]) [0, 1, 2, 3, 4, 5, 6] rfl rfl rfl (by decide) ?_
            refine z_if_eq (tgt := 120) (pc := 47) C dX5_receive_47 (by decide) (by decide) (fun c47 => ?_) (fun c47 => ?_)
            · exfalso; omega
            · refine z_aload_n (pc := 50) C dX5_receive_50 0 rfl ?_
              refine z_get (pc := 51) C dX5_receive_51 zCl5 ffX5_receive_43 0 rfl rfl ?_
              refine z_aload_n (pc := 54) C dX5_receive_54 0 rfl ?_
              refine z_get (pc := 55) C dX5_receive_55 zCl5 ffX5_receive_109 0 rfl rfl ?_
              refine z_iald (pc := 58) C dX5_receive_58 6 rfl (L.length) (by omega) (by omega) (by decide) ?_
              refine z_topi (y := (((zit s.1 s.2.2.1 t r).2.2.2.2 : Nat) : Int)) (zU_s) ?_
              refine z_iconst (pc := 59) C dX5_receive_59 ?_
              refine z_iadd (pc := 60) C dX5_receive_60 ?_
              have J89 : ∀ (j : Nat), j ≤ 3000 → t + 39 ≤ j → znf s.1 s.2.2.2.1 j = znf s.1 s.2.2.2.1 (zgo s.1 s.2.2.1 t r) → Z l X G Y 3 0 0 89 [(0, .ref ((B 0))), (1, .int (iI ((r : Int)))), (2, .int (iI ((j : Int))))] [] [((B 0), .inr (5, [.ref ((B 1)), .ref ((B 2)), .int (iI ((q0 : Int))), .ref ((B 3)), .int (iI ((q1 : Int))), .ref ((B 4)), .ref ((B 5)), .int (iI ((q2 : Int))), .int (iI ((q3 : Int))), .int (iI ((q4 : Int))), .ref ((B 6)), .ref ((B 7)), .int (iI (((L.length : Nat) : Int))), .int (iI ((f : Int))), .ref ((B 8)), .ref ((B 9)), .ref ((B 10)), .ref ((B 11)), .ref ((B 12)), .int (iI ((((zds L L.length) : Nat) : Int)))])), cI G (B 1) 1547 M, cI G (B 8) 64 (zU K0 L.length (zit s.1 s.2.2.1 t r).1), cI G (B 9) 64 (zU K1 L.length (((zit s.1 s.2.2.1 t r).2.1 : Nat) : Int)), cI G (B 10) 64 (zU K2 L.length (((zit s.1 s.2.2.1 t r).2.2.1 : Nat) : Int)), cI G (B 11) 64 (zU K3 L.length (((zit s.1 s.2.2.1 t r).2.2.2.1 : Nat) : Int)), cI G (B 12) 64 (zU K4 L.length (((zit s.1 s.2.2.1 t r).2.2.2.2 : Nat) : Int))] := by
                intro j hj hj2 hjz
                refine z_aload_n (pc := 89) C dX5_receive_89 0 rfl ?_
                refine z_dup (pc := 90) C dX5_receive_90 rfl ?_
                refine z_get (pc := 91) C dX5_receive_91 zCl5 ffX5_receive_118 0 rfl rfl ?_
                refine z_aload_n (pc := 94) C dX5_receive_94 0 rfl ?_
                refine z_get (pc := 95) C dX5_receive_95 zCl5 ffX5_receive_40 0 rfl rfl ?_
                refine z_aload_n (pc := 98) C dX5_receive_98 0 rfl ?_
                refine z_get (pc := 99) C dX5_receive_99 zCl5 ffX5_receive_109 0 rfl rfl ?_
                refine z_iald (pc := 102) C dX5_receive_102 5 rfl (L.length) (by omega) (by omega) (by decide) ?_
                refine z_topi (y := (((zit s.1 s.2.2.1 t r).2.2.2.1 : Nat) : Int)) (zU_s) ?_
                refine z_iadd (pc := 103) C dX5_receive_103 ?_
                refine z_put (ty := .int) (ws' := [((B 0), .inr (5, [.ref ((B 1)), .ref ((B 2)), .int (iI ((q0 : Int))), .ref ((B 3)), .int (iI ((q1 : Int))), .ref ((B 4)), .ref ((B 5)), .int (iI ((q2 : Int))), .int (iI ((q3 : Int))), .int (iI ((q4 : Int))), .ref ((B 6)), .ref ((B 7)), .int (iI (((L.length : Nat) : Int))), .int (iI ((f : Int))), .ref ((B 8)), .ref ((B 9)), .ref ((B 10)), .ref ((B 11)), .ref ((B 12)), .int (iI (((((zds L L.length) : Nat) : Int) + (((zit s.1 s.2.2.1 t r).2.2.2.1 : Nat) : Int))))])), cI G (B 1) 1547 M, cI G (B 8) 64 (zU K0 L.length (zit s.1 s.2.2.1 t r).1), cI G (B 9) 64 (zU K1 L.length (((zit s.1 s.2.2.1 t r).2.1 : Nat) : Int)), cI G (B 10) 64 (zU K2 L.length (((zit s.1 s.2.2.1 t r).2.2.1 : Nat) : Int)), cI G (B 11) 64 (zU K3 L.length (((zit s.1 s.2.2.1 t r).2.2.2.1 : Nat) : Int)), cI G (B 12) 64 (zU K4 L.length (((zit s.1 s.2.2.1 t r).2.2.2.2 : Nat) : Int))]) (pc := 104) C dX5_receive_104 zCl5 ffX5_receive_118 0 rfl rfl rfl rfl rfl (Nat.le_of_ble_eq_true rfl) rfl ?_
                refine z_aload_n (pc := 107) C dX5_receive_107 0 rfl ?_
                refine z_dup (pc := 108) C dX5_receive_108 rfl ?_
                refine z_get (pc := 109) C dX5_receive_109 zCl5 ffX5_receive_109 0 rfl rfl ?_
                refine z_iconst (pc := 112) C dX5_receive_112 ?_
                refine z_iadd (pc := 113) C dX5_receive_113 ?_
                refine z_put (ty := .int) (ws' := [((B 0), .inr (5, [.ref ((B 1)), .ref ((B 2)), .int (iI ((q0 : Int))), .ref ((B 3)), .int (iI ((q1 : Int))), .ref ((B 4)), .ref ((B 5)), .int (iI ((q2 : Int))), .int (iI ((q3 : Int))), .int (iI ((q4 : Int))), .ref ((B 6)), .ref ((B 7)), .int (iI ((((L.length : Nat) : Int) + 1))), .int (iI ((f : Int))), .ref ((B 8)), .ref ((B 9)), .ref ((B 10)), .ref ((B 11)), .ref ((B 12)), .int (iI (((((zds L L.length) : Nat) : Int) + (((zit s.1 s.2.2.1 t r).2.2.2.1 : Nat) : Int))))])), cI G (B 1) 1547 M, cI G (B 8) 64 (zU K0 L.length (zit s.1 s.2.2.1 t r).1), cI G (B 9) 64 (zU K1 L.length (((zit s.1 s.2.2.1 t r).2.1 : Nat) : Int)), cI G (B 10) 64 (zU K2 L.length (((zit s.1 s.2.2.1 t r).2.2.1 : Nat) : Int)), cI G (B 11) 64 (zU K3 L.length (((zit s.1 s.2.2.1 t r).2.2.2.1 : Nat) : Int)), cI G (B 12) 64 (zU K4 L.length (((zit s.1 s.2.2.1 t r).2.2.2.2 : Nat) : Int))]) (pc := 114) C dX5_receive_114 zCl5 ffX5_receive_109 0 rfl rfl rfl rfl rfl (Nat.le_of_ble_eq_true rfl) rfl ?_
                refine z_goto (tgt := 17) (pc := 117) C dX5_receive_117 (by decide) ?_
                refine z_ws (ws' := [((B 0), .inr (5, [.ref ((B 1)), .ref ((B 2)), .int (iI ((q0 : Int))), .ref ((B 3)), .int (iI ((q1 : Int))), .ref ((B 4)), .ref ((B 5)), .int (iI ((q2 : Int))), .int (iI ((q3 : Int))), .int (iI ((q4 : Int))), .ref ((B 6)), .ref ((B 7)), .int (iI ((((L ++ [(zit s.1 s.2.2.1 t r)]).length : Nat) : Int))), .int (iI ((f : Int))), .ref ((B 8)), .ref ((B 9)), .ref ((B 10)), .ref ((B 11)), .ref ((B 12)), .int (iI ((((zds (L ++ [(zit s.1 s.2.2.1 t r)]) (L ++ [(zit s.1 s.2.2.1 t r)]).length) : Nat) : Int)))])), cI G (B 1) 1547 M, cI G (B 8) 64 (zU K0 L.length (zit s.1 s.2.2.1 t r).1), cI G (B 9) 64 (zU K1 L.length (((zit s.1 s.2.2.1 t r).2.1 : Nat) : Int)), cI G (B 10) 64 (zU K2 L.length (((zit s.1 s.2.2.1 t r).2.2.1 : Nat) : Int)), cI G (B 11) 64 (zU K3 L.length (((zit s.1 s.2.2.1 t r).2.2.2.1 : Nat) : Int)), cI G (B 12) 64 (zU K4 L.length (((zit s.1 s.2.2.1 t r).2.2.2.2 : Nat) : Int))]) [0, 1, 2, 3, 4, 5, 6] (by rw [zds_app, List.length_append]; rfl) (by decide) ?_
                exact ih j f (L ++ [(zit s.1 s.2.2.1 t r)]) (zU K0 L.length (zit s.1 s.2.2.1 t r).1) (zU K1 L.length (((zit s.1 s.2.2.1 t r).2.1 : Nat) : Int)) (zU K2 L.length (((zit s.1 s.2.2.1 t r).2.2.1 : Nat) : Int)) (zU K3 L.length (((zit s.1 s.2.2.1 t r).2.2.2.1 : Nat) : Int)) (zU K4 L.length (((zit s.1 s.2.2.1 t r).2.2.2.2 : Nat) : Int)) (by omega) (by rw [List.length_append]; show 39 * (L.length + 1) ≤ j; omega) (by omega) (by omega) (zho_add hK _ rfl rfl rfl rfl rfl) (by rw [zrc_znf hjz, List.append_assoc]; exact hA2.1) (by rw [zrc_znf hjz]; exact hA2.2)
              refine z_istore_n (lv' := [(2, .int (iI (((((zit s.1 s.2.2.1 t r).2.2.2.2 : Nat) : Int) + 1)))), (0, .ref ((B 0))), (1, .int (iI ((r : Int))))]) (pc := 61) C dX5_receive_61 (by decide) rfl ?_
              have L62 : ∀ (m : Nat) (j : Nat), 3001 < j + m → zlast s.2.2.1 t r + 1 ≤ j → j ≤ 2500 → (∀ i, zlast s.2.2.1 t r + 1 ≤ i → i < j → s.1 i = false) → (j = zlast s.2.2.1 t r + 1 ∨ (zit s.1 s.2.2.1 t r).1 = 3) → Z l X G Y 3 0 0 62 [(0, .ref ((B 0))), (1, .int (iI ((r : Int)))), (2, .int (iI ((j : Int))))] [] [((B 0), .inr (5, [.ref ((B 1)), .ref ((B 2)), .int (iI ((q0 : Int))), .ref ((B 3)), .int (iI ((q1 : Int))), .ref ((B 4)), .ref ((B 5)), .int (iI ((q2 : Int))), .int (iI ((q3 : Int))), .int (iI ((q4 : Int))), .ref ((B 6)), .ref ((B 7)), .int (iI (((L.length : Nat) : Int))), .int (iI ((f : Int))), .ref ((B 8)), .ref ((B 9)), .ref ((B 10)), .ref ((B 11)), .ref ((B 12)), .int (iI ((((zds L L.length) : Nat) : Int)))])), cI G (B 1) 1547 M, cI G (B 8) 64 (zU K0 L.length (zit s.1 s.2.2.1 t r).1), cI G (B 9) 64 (zU K1 L.length (((zit s.1 s.2.2.1 t r).2.1 : Nat) : Int)), cI G (B 10) 64 (zU K2 L.length (((zit s.1 s.2.2.1 t r).2.2.1 : Nat) : Int)), cI G (B 11) 64 (zU K3 L.length (((zit s.1 s.2.2.1 t r).2.2.2.1 : Nat) : Int)), cI G (B 12) 64 (zU K4 L.length (((zit s.1 s.2.2.1 t r).2.2.2.2 : Nat) : Int))] := by
                intro m
                induction m with
                | zero => intro j hn hj1 hj2 hjl hkj; exact absurd hn (by omega)
                | succ m ih =>
                  intro j hn hj1 hj2 hjl hkj
                  refine z_aload_n (pc := 62) C dX5_receive_62 0 rfl ?_
                  refine z_get (pc := 63) C dX5_receive_63 zCl5 ffX5_receive_31 0 rfl rfl ?_
                  refine z_aload_n (pc := 66) C dX5_receive_66 0 rfl ?_
                  refine z_get (pc := 67) C dX5_receive_67 zCl5 ffX5_receive_109 0 rfl rfl ?_
                  refine z_iald (pc := 70) C dX5_receive_70 2 rfl (L.length) (by omega) (by omega) (by decide) ?_
                  have hk3 := hzi.1
                  refine z_topi (y := (zit s.1 s.2.2.1 t r).1) (zU_s) ?_
                  refine z_iconst (pc := 71) C dX5_receive_71 ?_
                  refine z_icmp_ne (tgt := 89) (pc := 72) C dX5_receive_72 (by decide) ⟨by omega, by omega⟩ (by decide) (fun c72 => ?_) (fun c72 => ?_)
                  · exact J89 j (by omega) (by omega) (by rw [show zgo s.1 s.2.2.1 t r = j from (if_neg c72).trans (hkj.resolve_right c72).symm])
                  · refine z_aload_n (pc := 75) C dX5_receive_75 0 rfl ?_
                    refine z_iload_n (pc := 76) C dX5_receive_76 2 rfl ?_
                    refine z_callV (As := [.int (iI ((j : Int)))]) (rest := []) (wc := [((B 0), .inr (5, [.ref ((B 1)), .ref ((B 2)), .int (iI ((q0 : Int))), .ref ((B 3)), .int (iI ((q1 : Int))), .ref ((B 4)), .ref ((B 5)), .int (iI ((q2 : Int))), .int (iI ((q3 : Int))), .int (iI ((q4 : Int))), .ref ((B 6)), .ref ((B 7)), .int (iI (((L.length : Nat) : Int))), .int (iI ((f : Int))), .ref ((B 8)), .ref ((B 9)), .ref ((B 10)), .ref ((B 11)), .ref ((B 12)), .int (iI ((((zds L L.length) : Nat) : Int)))])), cI G (B 1) 1547 M]) (wr := [cI G (B 8) 64 (zU K0 L.length (zit s.1 s.2.2.1 t r).1), cI G (B 9) 64 (zU K1 L.length (((zit s.1 s.2.2.1 t r).2.1 : Nat) : Int)), cI G (B 10) 64 (zU K2 L.length (((zit s.1 s.2.2.1 t r).2.2.1 : Nat) : Int)), cI G (B 11) 64 (zU K3 L.length (((zit s.1 s.2.2.1 t r).2.2.2.1 : Nat) : Int)), cI G (B 12) 64 (zU K4 L.length (((zit s.1 s.2.2.1 t r).2.2.2.2 : Nat) : Int))]) (fs := [.ref ((B 1)), .ref ((B 2)), .int (iI ((q0 : Int))), .ref ((B 3)), .int (iI ((q1 : Int))), .ref ((B 4)), .ref ((B 5)), .int (iI ((q2 : Int))), .int (iI ((q3 : Int))), .int (iI ((q4 : Int))), .ref ((B 6)), .ref ((B 7)), .int (iI (((L.length : Nat) : Int))), .int (iI ((f : Int))), .ref ((B 8)), .ref ((B 9)), .ref ((B 10)), .ref ((B 11)), .ref ((B 12)), .int (iI ((((zds L L.length) : Nat) : Int)))]) (pc := 77) C dX5_receive_77 (k_X5_levelAt l G B q0 q1 q2 q3 q4 L.length f (zds L L.length) M ((j : Nat) : Int) s hs hM ⟨by omega, by omega⟩) gX5_receive_X5_levelAt ⟨⟨_, rfl⟩, ⟨rfl, rfl⟩, nyX5_levelAt, ⟨Nat.le_of_ble_eq_true rfl, Nat.le_of_ble_eq_true rfl⟩⟩ rfl zCl5 rfl (fun h => h) rfl (Nat.le_of_ble_eq_true rfl) [0, 1] [2, 3, 4, 5, 6] rfl rfl (by decide) (by decide) (by decide) ⟨Nat.le_of_ble_eq_true rfl, Nat.le_of_ble_eq_true rfl⟩ (fun v w hk => ?_)
                    obtain ⟨rfl, rfl⟩ := hk
                    refine z_fix (pc2 := 80) (st2 := [.int (iI ((zlv s.1 ((j : Nat) : Int))))]) (ws' := [((B 0), .inr (5, [.ref ((B 1)), .ref ((B 2)), .int (iI ((q0 : Int))), .ref ((B 3)), .int (iI ((q1 : Int))), .ref ((B 4)), .ref ((B 5)), .int (iI ((q2 : Int))), .int (iI ((q3 : Int))), .int (iI ((q4 : Int))), .ref ((B 6)), .ref ((B 7)), .int (iI (((L.length : Nat) : Int))), .int (iI ((f : Int))), .ref ((B 8)), .ref ((B 9)), .ref ((B 10)), .ref ((B 11)), .ref ((B 12)), .int (iI ((((zds L L.length) : Nat) : Int)))])), cI G (B 1) 1547 M, cI G (B 8) 64 (zU K0 L.length (zit s.1 s.2.2.1 t r).1), cI G (B 9) 64 (zU K1 L.length (((zit s.1 s.2.2.1 t r).2.1 : Nat) : Int)), cI G (B 10) 64 (zU K2 L.length (((zit s.1 s.2.2.1 t r).2.2.1 : Nat) : Int)), cI G (B 11) 64 (zU K3 L.length (((zit s.1 s.2.2.1 t r).2.2.2.1 : Nat) : Int)), cI G (B 12) 64 (zU K4 L.length (((zit s.1 s.2.2.1 t r).2.2.2.2 : Nat) : Int))]) [5, 6, 0, 1, 2, 3, 4] rfl rfl rfl (by decide) ?_
                    have hlvb := zlv_b s.1 (j : Int)
                    refine z_if_ne (tgt := 89) (pc := 80) C dX5_receive_80 (by decide) ⟨by omega, by omega⟩ (fun c80 => ?_) (fun c80 => ?_)
                    · exact J89 j (by omega) (by omega) (by rw [znf_brk hs.2.2.1 hj1 hjl (zlv_1 c80)]; exact congrArg (znf s.1 _) (show zlast s.2.2.1 t r + 1 + 1 = zgo s.1 s.2.2.1 t r from (if_pos (show (zit s.1 s.2.2.1 t r).1 = 3 by omega)).symm))
                    · refine z_iinc (lv' := [(2, .int (iI (((j : Int) + 1)))), (0, .ref ((B 0))), (1, .int (iI ((r : Int))))]) (pc := 83) C dX5_receive_83 2 rfl (by decide) rfl ?_
                      refine z_goto (tgt := 62) (pc := 86) C dX5_receive_86 (by decide) ?_
                      refine z_lv (lv' := [(0, .ref ((B 0))), (1, .int (iI ((r : Int)))), (2, .int (iI (((j : Int) + 1))))]) [1, 2, 0] rfl ?_
                      have hj0 := zlv_0 c80
                      have hje : j < s.2.2.2.1 := by
                        apply Nat.lt_of_not_le
                        intro q
                        rw [hs.2.2.1 j q] at hj0
                        exact Bool.noConfusion hj0
                      exact ih (j + 1) (by omega) (by omega) (by omega) (fun i h1 h2 => by
                        by_cases hij : i = j
                        · rw [hij]
                          exact hj0
                        · exact hjl i h1 (by omega)) (Or.inr (by omega))
              refine z_lv (lv' := [(0, .ref ((B 0))), (1, .int (iI ((r : Int)))), (2, .int (iI (((((zit s.1 s.2.2.1 t r).2.2.2.2 : Nat) : Int) + 1))))]) [1, 2, 0] rfl ?_
              exact L62 3002 (zlast s.2.2.1 t r + 1) (by omega) (Nat.le_refl _) (by omega) (fun i h1 h2 => absurd h2 (by omega)) (Or.inl rfl)
        · refine z_iinc (lv' := [(2, .int (iI (((t : Int) + 1)))), (0, .ref ((B 0))), (1, .int (iI ((r : Int))))]) (pc := 35) C dX5_receive_35 2 rfl (by decide) rfl ?_
          refine z_goto (tgt := 17) (pc := 38) C dX5_receive_38 (by decide) ?_
          refine z_lv (lv' := [(0, .ref ((B 0))), (1, .int (iI ((r : Int)))), (2, .int (iI (((t : Int) + 1))))]) [1, 2, 0] rfl ?_
          exact ih (t + 1) f L K0 K1 K2 K3 K4 (by omega) (by omega) (by omega) (by omega) hK (by rw [← zrc_step (by omega) (zfall_f c32)]; exact hA) (by rw [← zrc_step (by omega) (zfall_f c32)]; exact hB)
  refine z_lv (lv' := [(0, .ref ((B 0))), (1, .int (iI ((r : Int)))), (2, .int (iI 0))]) [1, 2, 0] rfl ?_
  exact L17 3002 0 0 [] K0 K1 K2 K3 K4 (by omega) (by decide) (by omega) (by omega) (zho_0 _ _ _ _ _) rfl (Nat.zero_add _)

theorem ffX5_ofKind_109 : zFF wsX5_ofKind RX5 109 RX5 TX5 20 12 := ⟨by decide +kernel, by decide, by decide +kernel⟩
theorem ffX5_ofKind_31 : zFF wsX5_ofKind RX5 31 RX5 TX5 20 14 := ⟨by decide +kernel, by decide, by decide +kernel⟩
set_option maxHeartbeats 4000000 in
set_option maxRecDepth 100000 in
theorem k_X5_ofKind (l : Launch) (G : ZG) (B : Nat → Nat) (q0 q1 q2 q3 q4 q5 q6 q7 : Nat) (K0 K1 K2 K3 K4 : Nat → Int) (z : Int) (L : List ZIt) (hq : q5 = L.length) (hK : zho K0 K1 K2 K3 K4 L) (h39 : L.length ≤ 39) (hB : ∀ it ∈ L, zItB it) (hz : iR z) : Kt l G yX5_ofKind wsX5_ofKind { frames := 0, cells := 0, slots := 0, locals := 0 } 0 0 False [.ref ((B 0)), .int (iI z)] [((B 0), .inr (5, [.ref ((B 1)), .ref ((B 2)), .int (iI ((q0 : Int))), .ref ((B 3)), .int (iI ((q1 : Int))), .ref ((B 4)), .ref ((B 5)), .int (iI ((q2 : Int))), .int (iI ((q3 : Int))), .int (iI ((q4 : Int))), .ref ((B 6)), .ref ((B 7)), .int (iI ((q5 : Int))), .int (iI ((q6 : Int))), .ref ((B 8)), .ref ((B 9)), .ref ((B 10)), .ref ((B 11)), .ref ((B 12)), .int (iI ((q7 : Int)))])), cI G (B 8) 64 K0, cI G (B 9) 64 K1, cI G (B 10) 64 K2, cI G (B 11) 64 K3, cI G (B 12) 64 K4] (fun v9 w9 => v9 = some (.int (iI ((zkn L z)))) ∧ w9 = [((B 0), .inr (5, [.ref ((B 1)), .ref ((B 2)), .int (iI ((q0 : Int))), .ref ((B 3)), .int (iI ((q1 : Int))), .ref ((B 4)), .ref ((B 5)), .int (iI ((q2 : Int))), .int (iI ((q3 : Int))), .int (iI ((q4 : Int))), .ref ((B 6)), .ref ((B 7)), .int (iI ((q5 : Int))), .int (iI ((q6 : Int))), .ref ((B 8)), .ref ((B 9)), .ref ((B 10)), .ref ((B 11)), .ref ((B 12)), .int (iI ((q7 : Int)))])), cI G (B 8) 64 K0, cI G (B 9) 64 K1, cI G (B 10) 64 K2, cI G (B 11) 64 K3, cI G (B 12) 64 K4]) := by
  refine Kt.of (cc := cX5_ofKind) (nL := 4) (ret := (some .int)) (own := RX5) rfl (by decide +kernel) rfl (Nat.le_of_ble_eq_true rfl) ?_
  intro X Y C R0 hin
  show Z l X G Y 4 0 0 0 [(0, .ref ((B 0))), (1, .int (iI z))] [] [((B 0), .inr (5, [.ref ((B 1)), .ref ((B 2)), .int (iI ((q0 : Int))), .ref ((B 3)), .int (iI ((q1 : Int))), .ref ((B 4)), .ref ((B 5)), .int (iI ((q2 : Int))), .int (iI ((q3 : Int))), .int (iI ((q4 : Int))), .ref ((B 6)), .ref ((B 7)), .int (iI ((q5 : Int))), .int (iI ((q6 : Int))), .ref ((B 8)), .ref ((B 9)), .ref ((B 10)), .ref ((B 11)), .ref ((B 12)), .int (iI ((q7 : Int)))])), cI G (B 8) 64 K0, cI G (B 9) 64 K1, cI G (B 10) 64 K2, cI G (B 11) 64 K3, cI G (B 12) 64 K4]
  refine z_iconst (pc := 0) C dX5_ofKind_0 ?_
  refine z_istore_n (lv' := [(2, .int (iI 0)), (0, .ref ((B 0))), (1, .int (iI z))]) (pc := 1) C dX5_ofKind_1 (by decide) rfl ?_
  refine z_iconst (pc := 2) C dX5_ofKind_2 ?_
  refine z_istore_n (lv' := [(3, .int (iI 0)), (2, .int (iI 0)), (0, .ref ((B 0))), (1, .int (iI z))]) (pc := 3) C dX5_ofKind_3 (by decide) rfl ?_
  have L4 : ∀ (n : Nat) (i : Nat), L.length < i + n → i ≤ L.length → Z l X G Y 4 0 0 4 [(0, .ref ((B 0))), (1, .int (iI z)), (2, .int (iI ((((zcn (fun it => decide (it.1 = z)) L i) : Nat) : Int)))), (3, .int (iI ((i : Int))))] [] [((B 0), .inr (5, [.ref ((B 1)), .ref ((B 2)), .int (iI ((q0 : Int))), .ref ((B 3)), .int (iI ((q1 : Int))), .ref ((B 4)), .ref ((B 5)), .int (iI ((q2 : Int))), .int (iI ((q3 : Int))), .int (iI ((q4 : Int))), .ref ((B 6)), .ref ((B 7)), .int (iI ((q5 : Int))), .int (iI ((q6 : Int))), .ref ((B 8)), .ref ((B 9)), .ref ((B 10)), .ref ((B 11)), .ref ((B 12)), .int (iI ((q7 : Int)))])), cI G (B 8) 64 K0, cI G (B 9) 64 K1, cI G (B 10) 64 K2, cI G (B 11) 64 K3, cI G (B 12) 64 K4] := by
    intro n
    induction n with
    | zero => intro i hn hi; exact absurd hn (by omega)
    | succ n ih =>
      intro i hn hi
      refine z_iload_n (pc := 4) C dX5_ofKind_4 3 rfl ?_
      refine z_aload_n (pc := 5) C dX5_ofKind_5 0 rfl ?_
      refine z_get (pc := 6) C dX5_ofKind_6 zCl5 ffX5_ofKind_109 0 rfl rfl ?_
      refine z_icmp_ge (tgt := 36) (pc := 9) C dX5_ofKind_9 (by decide) ⟨by omega, by omega⟩ ⟨by omega, by omega⟩ (fun c9 => ?_) (fun c9 => ?_)
      · obtain rfl : i = L.length := by omega
        refine z_iload_n (pc := 36) C dX5_ofKind_36 2 rfl ?_
        exact z_iret (pc := 37) C R0 dX5_ofKind_37 (⟨rfl, rfl⟩)
      · obtain ⟨it, hit, hmem⟩ := zit_at (l := L) (i := i) (by omega)
        obtain ⟨e0, e1, e2, e3, e4⟩ := hK i it hit
        have hib := hB it hmem
        obtain ⟨b0, b1, b2, b3, b4⟩ := id hib
        refine z_iload_n (pc := 12) C dX5_ofKind_12 2 rfl ?_
        refine z_aload_n (pc := 13) C dX5_ofKind_13 0 rfl ?_
        refine z_get (pc := 14) C dX5_ofKind_14 zCl5 ffX5_ofKind_31 0 rfl rfl ?_
        refine z_iload_n (pc := 17) C dX5_ofKind_17 3 rfl ?_
        refine z_iald (pc := 18) C dX5_ofKind_18 1 rfl (i) (by omega) (by omega) (by decide) ?_
        refine z_iload_n (pc := 19) C dX5_ofKind_19 1 rfl ?_
        refine z_icmp_ne (tgt := 27) (pc := 20) C dX5_ofKind_20 (by decide) ⟨by omega, by omega⟩ ⟨by omega, by omega⟩ (fun c20 => ?_) (fun c20 => ?_)
        · refine z_iconst (pc := 27) C dX5_ofKind_27 ?_
          refine z_iadd (pc := 28) C dX5_ofKind_28 ?_
          refine z_topi (y := (((zcn (fun it => decide (it.1 = z)) L (i + 1)) : Nat) : Int)) (by rw [zcn_s hit, decide_eq_false (by omega)]; rfl) ?_
          refine z_istore_n (lv' := [(2, .int (iI ((((zcn (fun it => decide (it.1 = z)) L (i + 1)) : Nat) : Int)))), (0, .ref ((B 0))), (1, .int (iI z)), (3, .int (iI ((i : Int))))]) (pc := 29) C dX5_ofKind_29 (by decide) rfl ?_
          refine z_iinc (lv' := [(3, .int (iI (((i : Int) + 1)))), (2, .int (iI ((((zcn (fun it => decide (it.1 = z)) L (i + 1)) : Nat) : Int)))), (0, .ref ((B 0))), (1, .int (iI z))]) (pc := 30) C dX5_ofKind_30 3 rfl (by decide) rfl ?_
          refine z_goto (tgt := 4) (pc := 33) C dX5_ofKind_33 (by decide) ?_
          refine z_lv (lv' := [(0, .ref ((B 0))), (1, .int (iI z)), (2, .int (iI ((((zcn (fun it => decide (it.1 = z)) L (i + 1)) : Nat) : Int)))), (3, .int (iI (((i : Int) + 1))))]) [2, 3, 1, 0] rfl ?_
          exact ih (i + 1) (by omega) (by omega)
        · refine z_iconst (pc := 23) C dX5_ofKind_23 ?_
          refine z_goto (tgt := 28) (pc := 24) C dX5_ofKind_24 (by decide) ?_
          refine z_iadd (pc := 28) C dX5_ofKind_28 ?_
          refine z_topi (y := (((zcn (fun it => decide (it.1 = z)) L (i + 1)) : Nat) : Int)) (by rw [zcn_s hit, decide_eq_true (by omega)]; rfl) ?_
          refine z_istore_n (lv' := [(2, .int (iI ((((zcn (fun it => decide (it.1 = z)) L (i + 1)) : Nat) : Int)))), (0, .ref ((B 0))), (1, .int (iI z)), (3, .int (iI ((i : Int))))]) (pc := 29) C dX5_ofKind_29 (by decide) rfl ?_
          refine z_iinc (lv' := [(3, .int (iI (((i : Int) + 1)))), (2, .int (iI ((((zcn (fun it => decide (it.1 = z)) L (i + 1)) : Nat) : Int)))), (0, .ref ((B 0))), (1, .int (iI z))]) (pc := 30) C dX5_ofKind_30 3 rfl (by decide) rfl ?_
          refine z_goto (tgt := 4) (pc := 33) C dX5_ofKind_33 (by decide) ?_
          refine z_lv (lv' := [(0, .ref ((B 0))), (1, .int (iI z)), (2, .int (iI ((((zcn (fun it => decide (it.1 = z)) L (i + 1)) : Nat) : Int)))), (3, .int (iI (((i : Int) + 1))))]) [2, 3, 1, 0] rfl ?_
          exact ih (i + 1) (by omega) (by omega)
  refine z_lv (lv' := [(0, .ref ((B 0))), (1, .int (iI z)), (2, .int (iI 0)), (3, .int (iI 0))]) [2, 3, 1, 0] rfl ?_
  exact L4 (L.length + 1) 0 (by omega) (by omega)

theorem ffX5_isWell_109 : zFF wsX5_isWell RX5 109 RX5 TX5 20 12 := ⟨by decide +kernel, by decide, by decide +kernel⟩
theorem ffX5_isWell_7 : zFF wsX5_isWell RX5 7 RX5 TX5 20 0 := ⟨by decide +kernel, by decide, by decide +kernel⟩
theorem ffX5_isWell_31 : zFF wsX5_isWell RX5 31 RX5 TX5 20 14 := ⟨by decide +kernel, by decide, by decide +kernel⟩
theorem ffX5_isWell_34 : zFF wsX5_isWell RX5 34 RX5 TX5 20 15 := ⟨by decide +kernel, by decide, by decide +kernel⟩
set_option maxHeartbeats 4000000 in
set_option maxRecDepth 100000 in
theorem k_X5_isWell (l : Launch) (G : ZG) (B : Nat → Nat) (q0 q1 q2 q3 q4 q5 q6 q7 : Nat) (M K0 K1 K2 K3 K4 : Nat → Int) (s : ZS) (L : List ZIt) (hs : zIs s) (hM : zMs M s) (hq : q5 = L.length) (hK : zho K0 K1 K2 K3 K4 L) (h39 : L.length ≤ 39) (hB : ∀ it ∈ L, zItB it) : Kt l G yX5_isWell wsX5_isWell { frames := 0, cells := 0, slots := 0, locals := 0 } 0 0 False [.ref ((B 0))] [((B 0), .inr (5, [.ref ((B 1)), .ref ((B 2)), .int (iI ((q0 : Int))), .ref ((B 3)), .int (iI ((q1 : Int))), .ref ((B 4)), .ref ((B 5)), .int (iI ((q2 : Int))), .int (iI ((q3 : Int))), .int (iI ((q4 : Int))), .ref ((B 6)), .ref ((B 7)), .int (iI ((q5 : Int))), .int (iI ((q6 : Int))), .ref ((B 8)), .ref ((B 9)), .ref ((B 10)), .ref ((B 11)), .ref ((B 12)), .int (iI ((q7 : Int)))])), cI G (B 1) 1547 M, cI G (B 8) 64 K0, cI G (B 9) 64 K1, cI G (B 10) 64 K2, cI G (B 11) 64 K3, cI G (B 12) 64 K4] (fun v9 w9 => ∃ (rr : Int), ((rr = 1 ∧ zwell L s.2.1 s.2.2.2.2) ∨ (rr = 0 ∧ ¬ zwell L s.2.1 s.2.2.2.2)) ∧ v9 = some (.int (iI rr)) ∧ w9 = [((B 0), .inr (5, [.ref ((B 1)), .ref ((B 2)), .int (iI ((q0 : Int))), .ref ((B 3)), .int (iI ((q1 : Int))), .ref ((B 4)), .ref ((B 5)), .int (iI ((q2 : Int))), .int (iI ((q3 : Int))), .int (iI ((q4 : Int))), .ref ((B 6)), .ref ((B 7)), .int (iI ((q5 : Int))), .int (iI ((q6 : Int))), .ref ((B 8)), .ref ((B 9)), .ref ((B 10)), .ref ((B 11)), .ref ((B 12)), .int (iI ((q7 : Int)))])), cI G (B 1) 1547 M, cI G (B 8) 64 K0, cI G (B 9) 64 K1, cI G (B 10) 64 K2, cI G (B 11) 64 K3, cI G (B 12) 64 K4]) := by
  refine Kt.of (cc := cX5_isWell) (nL := 3) (ret := (some .boolean)) (own := RX5) rfl (by decide +kernel) rfl (Nat.le_of_ble_eq_true rfl) ?_
  intro X Y C R0 hin
  show Z l X G Y 3 0 0 0 [(0, .ref ((B 0)))] [] [((B 0), .inr (5, [.ref ((B 1)), .ref ((B 2)), .int (iI ((q0 : Int))), .ref ((B 3)), .int (iI ((q1 : Int))), .ref ((B 4)), .ref ((B 5)), .int (iI ((q2 : Int))), .int (iI ((q3 : Int))), .int (iI ((q4 : Int))), .ref ((B 6)), .ref ((B 7)), .int (iI ((q5 : Int))), .int (iI ((q6 : Int))), .ref ((B 8)), .ref ((B 9)), .ref ((B 10)), .ref ((B 11)), .ref ((B 12)), .int (iI ((q7 : Int)))])), cI G (B 1) 1547 M, cI G (B 8) 64 K0, cI G (B 9) 64 K1, cI G (B 10) 64 K2, cI G (B 11) 64 K3, cI G (B 12) 64 K4]
  obtain ⟨m0, m1, m2, m3, m4, m5, m6, he, hk⟩ := zMs_r hs hM
  refine z_aload_n (pc := 0) C dX5_isWell_0 0 rfl ?_
  refine z_get (pc := 1) C dX5_isWell_1 zCl5 ffX5_isWell_109 0 rfl rfl ?_
  refine z_aload_n (pc := 4) C dX5_isWell_4 0 rfl ?_
  refine z_get (pc := 5) C dX5_isWell_5 zCl5 ffX5_isWell_7 0 rfl rfl ?_
  refine z_bipush (pc := 8) C dX5_isWell_8 (by decide +kernel) ?_
  refine z_iald (pc := 10) C dX5_isWell_10 1 rfl (6) (rfl) (by omega) (by decide) ?_
  refine z_icmp_ne (tgt := 18) (pc := 11) C dX5_isWell_11 (by decide) ⟨by omega, by omega⟩ ⟨by omega, by omega⟩ (fun c11 => ?_) (fun c11 => ?_)
  · refine z_iconst (pc := 18) C dX5_isWell_18 ?_
    refine z_istore_n (lv' := [(1, .int (iI 0)), (0, .ref ((B 0)))]) (pc := 19) C dX5_isWell_19 (by decide) rfl ?_
    refine z_iconst (pc := 20) C dX5_isWell_20 ?_
    refine z_istore_n (lv' := [(2, .int (iI 0)), (1, .int (iI 0)), (0, .ref ((B 0)))]) (pc := 21) C dX5_isWell_21 (by decide) rfl ?_
    have L22 : ∀ (n : Nat) (i : Nat) (z : Int), L.length < i + n → i ≤ L.length → ((z = 1 ∧ L.length = s.2.2.2.2 ∧ ∀ j it, j < i → L[j]? = some it → it.1 = 0 ∧ (it.2.1 : Int) = s.2.1 j) ∨ (z = 0 ∧ ¬ zwell L s.2.1 s.2.2.2.2)) → Z l X G Y 3 0 0 22 [(0, .ref ((B 0))), (1, .int (iI z)), (2, .int (iI ((i : Int))))] [] [((B 0), .inr (5, [.ref ((B 1)), .ref ((B 2)), .int (iI ((q0 : Int))), .ref ((B 3)), .int (iI ((q1 : Int))), .ref ((B 4)), .ref ((B 5)), .int (iI ((q2 : Int))), .int (iI ((q3 : Int))), .int (iI ((q4 : Int))), .ref ((B 6)), .ref ((B 7)), .int (iI ((q5 : Int))), .int (iI ((q6 : Int))), .ref ((B 8)), .ref ((B 9)), .ref ((B 10)), .ref ((B 11)), .ref ((B 12)), .int (iI ((q7 : Int)))])), cI G (B 1) 1547 M, cI G (B 8) 64 K0, cI G (B 9) 64 K1, cI G (B 10) 64 K2, cI G (B 11) 64 K3, cI G (B 12) 64 K4] := by
      intro n
      induction n with
      | zero => intro i z hn hi hz; exact absurd hn (by omega)
      | succ n ih =>
        intro i z hn hi hz
        refine z_iload_n (pc := 22) C dX5_isWell_22 2 rfl ?_
        refine z_aload_n (pc := 23) C dX5_isWell_23 0 rfl ?_
        refine z_get (pc := 24) C dX5_isWell_24 zCl5 ffX5_isWell_109 0 rfl rfl ?_
        refine z_icmp_ge (tgt := 73) (pc := 27) C dX5_isWell_27 (by decide) ⟨by omega, by omega⟩ ⟨by omega, by omega⟩ (fun c27 => ?_) (fun c27 => ?_)
        · refine z_iload_n (pc := 73) C dX5_isWell_73 1 rfl ?_
          exact z_zret (pc := 74) C R0 ((by rcases hz with q | q <;> (rw [q.1]; decide))) dX5_isWell_74 (⟨z, hz.imp (fun q => ⟨q.1, q.2.1, fun j it h => q.2.2 j it (by have := (List.getElem?_eq_some_iff.mp h).1; omega) h⟩) (fun q => q), rfl, rfl⟩)
        · obtain ⟨it, hit, hmem⟩ := zit_at (l := L) (i := i) (by omega)
          obtain ⟨e0, e1, e2, e3, e4⟩ := hK i it hit
          have hib := hB it hmem
          obtain ⟨b0, b1, b2, b3, b4⟩ := id hib
          refine z_iload_n (pc := 30) C dX5_isWell_30 1 rfl ?_
          refine z_if_eq (tgt := 73) (pc := 31) C dX5_isWell_31 (by decide) ⟨by omega, by omega⟩ (fun c31 => ?_) (fun c31 => ?_)
          · refine z_iload_n (pc := 73) C dX5_isWell_73 1 rfl ?_
            exact z_zret (pc := 74) C R0 ((by rcases hz with q | q <;> (rw [q.1]; decide))) dX5_isWell_74 (⟨z, hz.imp (fun q => absurd q.1 (by omega)) (fun q => q), rfl, rfl⟩)
          · obtain ⟨_, hlk, hgd⟩ := hz.resolve_right (fun q => c31 q.1)
            have hwi := hM.2.2.2.1 i (by omega)
            have hwb := hs.2.2.2.2.2.2.2.2 i (by omega)
            refine z_aload_n (pc := 34) C dX5_isWell_34 0 rfl ?_
            refine z_get (pc := 35) C dX5_isWell_35 zCl5 ffX5_isWell_31 0 rfl rfl ?_
            refine z_iload_n (pc := 38) C dX5_isWell_38 2 rfl ?_
            refine z_iald (pc := 39) C dX5_isWell_39 2 rfl (i) (by omega) (by omega) (by decide) ?_
            refine z_if_ne (tgt := 65) (pc := 40) C dX5_isWell_40 (by decide) ⟨by omega, by omega⟩ (fun c40 => ?_) (fun c40 => ?_)
            · refine z_iconst (pc := 65) C dX5_isWell_65 ?_
              refine z_istore_n (lv' := [(1, .int (iI 0)), (0, .ref ((B 0))), (2, .int (iI ((i : Int))))]) (pc := 66) C dX5_isWell_66 (by decide) rfl ?_
              refine z_iinc (lv' := [(2, .int (iI (((i : Int) + 1)))), (1, .int (iI 0)), (0, .ref ((B 0)))]) (pc := 67) C dX5_isWell_67 2 rfl (by decide) rfl ?_
              refine z_goto (tgt := 22) (pc := 70) C dX5_isWell_70 (by decide) ?_
              refine z_lv (lv' := [(0, .ref ((B 0))), (1, .int (iI 0)), (2, .int (iI (((i : Int) + 1))))]) [2, 1, 0] rfl ?_
              exact ih (i + 1) 0 (by omega) (by omega) (Or.inr ⟨rfl, fun q => by have := (q.2 i it hit).1; omega⟩)
            · refine z_aload_n (pc := 43) C dX5_isWell_43 0 rfl ?_
              refine z_get (pc := 44) C dX5_isWell_44 zCl5 ffX5_isWell_34 0 rfl rfl ?_
              refine z_iload_n (pc := 47) C dX5_isWell_47 2 rfl ?_
              refine z_iald (pc := 48) C dX5_isWell_48 3 rfl (i) (by omega) (by omega) (by decide) ?_
              refine z_aload_n (pc := 49) C dX5_isWell_49 0 rfl ?_
              refine z_get (pc := 50) C dX5_isWell_50 zCl5 ffX5_isWell_7 0 rfl rfl ?_
              refine z_bipush (pc := 53) C dX5_isWell_53 (by decide +kernel) ?_
              refine z_iload_n (pc := 55) C dX5_isWell_55 2 rfl ?_
              refine z_iadd (pc := 56) C dX5_isWell_56 ?_
              refine z_iald (pc := 57) C dX5_isWell_57 1 rfl ((7 + i)) (by omega) (by omega) (by decide) ?_
              refine z_icmp_ne (tgt := 65) (pc := 58) C dX5_isWell_58 (by decide) ⟨by omega, by omega⟩ ⟨by omega, by omega⟩ (fun c58 => ?_) (fun c58 => ?_)
              · refine z_iconst (pc := 65) C dX5_isWell_65 ?_
                refine z_istore_n (lv' := [(1, .int (iI 0)), (0, .ref ((B 0))), (2, .int (iI ((i : Int))))]) (pc := 66) C dX5_isWell_66 (by decide) rfl ?_
                refine z_iinc (lv' := [(2, .int (iI (((i : Int) + 1)))), (1, .int (iI 0)), (0, .ref ((B 0)))]) (pc := 67) C dX5_isWell_67 2 rfl (by decide) rfl ?_
                refine z_goto (tgt := 22) (pc := 70) C dX5_isWell_70 (by decide) ?_
                refine z_lv (lv' := [(0, .ref ((B 0))), (1, .int (iI 0)), (2, .int (iI (((i : Int) + 1))))]) [2, 1, 0] rfl ?_
                exact ih (i + 1) 0 (by omega) (by omega) (Or.inr ⟨rfl, fun q => by have := (q.2 i it hit).2; omega⟩)
              · refine z_iconst (pc := 61) C dX5_isWell_61 ?_
                refine z_goto (tgt := 66) (pc := 62) C dX5_isWell_62 (by decide) ?_
                refine z_istore_n (lv' := [(1, .int (iI 1)), (0, .ref ((B 0))), (2, .int (iI ((i : Int))))]) (pc := 66) C dX5_isWell_66 (by decide) rfl ?_
                refine z_iinc (lv' := [(2, .int (iI (((i : Int) + 1)))), (1, .int (iI 1)), (0, .ref ((B 0)))]) (pc := 67) C dX5_isWell_67 2 rfl (by decide) rfl ?_
                refine z_goto (tgt := 22) (pc := 70) C dX5_isWell_70 (by decide) ?_
                refine z_lv (lv' := [(0, .ref ((B 0))), (1, .int (iI 1)), (2, .int (iI (((i : Int) + 1))))]) [2, 1, 0] rfl ?_
                exact ih (i + 1) 1 (by omega) (by omega) (Or.inl ⟨rfl, hlk, fun j it2 hj hj2 => by
                  by_cases hji : j = i
                  · subst hji
                    rw [hit] at hj2
                    cases hj2
                    exact ⟨by omega, by omega⟩
                  · exact hgd j it2 (by omega) hj2⟩)
    refine z_lv (lv' := [(0, .ref ((B 0))), (1, .int (iI 0)), (2, .int (iI 0))]) [2, 1, 0] rfl ?_
    exact L22 (L.length + 1) 0 0 (by omega) (by omega) (Or.inr ⟨rfl, zwell_len (by omega)⟩)
  · refine z_iconst (pc := 14) C dX5_isWell_14 ?_
    refine z_goto (tgt := 19) (pc := 15) C dX5_isWell_15 (by decide) ?_
    refine z_istore_n (lv' := [(1, .int (iI 1)), (0, .ref ((B 0)))]) (pc := 19) C dX5_isWell_19 (by decide) rfl ?_
    refine z_iconst (pc := 20) C dX5_isWell_20 ?_
    refine z_istore_n (lv' := [(2, .int (iI 0)), (1, .int (iI 1)), (0, .ref ((B 0)))]) (pc := 21) C dX5_isWell_21 (by decide) rfl ?_
    have L22 : ∀ (n : Nat) (i : Nat) (z : Int), L.length < i + n → i ≤ L.length → ((z = 1 ∧ L.length = s.2.2.2.2 ∧ ∀ j it, j < i → L[j]? = some it → it.1 = 0 ∧ (it.2.1 : Int) = s.2.1 j) ∨ (z = 0 ∧ ¬ zwell L s.2.1 s.2.2.2.2)) → Z l X G Y 3 0 0 22 [(0, .ref ((B 0))), (1, .int (iI z)), (2, .int (iI ((i : Int))))] [] [((B 0), .inr (5, [.ref ((B 1)), .ref ((B 2)), .int (iI ((q0 : Int))), .ref ((B 3)), .int (iI ((q1 : Int))), .ref ((B 4)), .ref ((B 5)), .int (iI ((q2 : Int))), .int (iI ((q3 : Int))), .int (iI ((q4 : Int))), .ref ((B 6)), .ref ((B 7)), .int (iI ((q5 : Int))), .int (iI ((q6 : Int))), .ref ((B 8)), .ref ((B 9)), .ref ((B 10)), .ref ((B 11)), .ref ((B 12)), .int (iI ((q7 : Int)))])), cI G (B 1) 1547 M, cI G (B 8) 64 K0, cI G (B 9) 64 K1, cI G (B 10) 64 K2, cI G (B 11) 64 K3, cI G (B 12) 64 K4] := by
      intro n
      induction n with
      | zero => intro i z hn hi hz; exact absurd hn (by omega)
      | succ n ih =>
        intro i z hn hi hz
        refine z_iload_n (pc := 22) C dX5_isWell_22 2 rfl ?_
        refine z_aload_n (pc := 23) C dX5_isWell_23 0 rfl ?_
        refine z_get (pc := 24) C dX5_isWell_24 zCl5 ffX5_isWell_109 0 rfl rfl ?_
        refine z_icmp_ge (tgt := 73) (pc := 27) C dX5_isWell_27 (by decide) ⟨by omega, by omega⟩ ⟨by omega, by omega⟩ (fun c27 => ?_) (fun c27 => ?_)
        · refine z_iload_n (pc := 73) C dX5_isWell_73 1 rfl ?_
          exact z_zret (pc := 74) C R0 ((by rcases hz with q | q <;> (rw [q.1]; decide))) dX5_isWell_74 (⟨z, hz.imp (fun q => ⟨q.1, q.2.1, fun j it h => q.2.2 j it (by have := (List.getElem?_eq_some_iff.mp h).1; omega) h⟩) (fun q => q), rfl, rfl⟩)
        · obtain ⟨it, hit, hmem⟩ := zit_at (l := L) (i := i) (by omega)
          obtain ⟨e0, e1, e2, e3, e4⟩ := hK i it hit
          have hib := hB it hmem
          obtain ⟨b0, b1, b2, b3, b4⟩ := id hib
          refine z_iload_n (pc := 30) C dX5_isWell_30 1 rfl ?_
          refine z_if_eq (tgt := 73) (pc := 31) C dX5_isWell_31 (by decide) ⟨by omega, by omega⟩ (fun c31 => ?_) (fun c31 => ?_)
          · refine z_iload_n (pc := 73) C dX5_isWell_73 1 rfl ?_
            exact z_zret (pc := 74) C R0 ((by rcases hz with q | q <;> (rw [q.1]; decide))) dX5_isWell_74 (⟨z, hz.imp (fun q => absurd q.1 (by omega)) (fun q => q), rfl, rfl⟩)
          · obtain ⟨_, hlk, hgd⟩ := hz.resolve_right (fun q => c31 q.1)
            have hwi := hM.2.2.2.1 i (by omega)
            have hwb := hs.2.2.2.2.2.2.2.2 i (by omega)
            refine z_aload_n (pc := 34) C dX5_isWell_34 0 rfl ?_
            refine z_get (pc := 35) C dX5_isWell_35 zCl5 ffX5_isWell_31 0 rfl rfl ?_
            refine z_iload_n (pc := 38) C dX5_isWell_38 2 rfl ?_
            refine z_iald (pc := 39) C dX5_isWell_39 2 rfl (i) (by omega) (by omega) (by decide) ?_
            refine z_if_ne (tgt := 65) (pc := 40) C dX5_isWell_40 (by decide) ⟨by omega, by omega⟩ (fun c40 => ?_) (fun c40 => ?_)
            · refine z_iconst (pc := 65) C dX5_isWell_65 ?_
              refine z_istore_n (lv' := [(1, .int (iI 0)), (0, .ref ((B 0))), (2, .int (iI ((i : Int))))]) (pc := 66) C dX5_isWell_66 (by decide) rfl ?_
              refine z_iinc (lv' := [(2, .int (iI (((i : Int) + 1)))), (1, .int (iI 0)), (0, .ref ((B 0)))]) (pc := 67) C dX5_isWell_67 2 rfl (by decide) rfl ?_
              refine z_goto (tgt := 22) (pc := 70) C dX5_isWell_70 (by decide) ?_
              refine z_lv (lv' := [(0, .ref ((B 0))), (1, .int (iI 0)), (2, .int (iI (((i : Int) + 1))))]) [2, 1, 0] rfl ?_
              exact ih (i + 1) 0 (by omega) (by omega) (Or.inr ⟨rfl, fun q => by have := (q.2 i it hit).1; omega⟩)
            · refine z_aload_n (pc := 43) C dX5_isWell_43 0 rfl ?_
              refine z_get (pc := 44) C dX5_isWell_44 zCl5 ffX5_isWell_34 0 rfl rfl ?_
              refine z_iload_n (pc := 47) C dX5_isWell_47 2 rfl ?_
              refine z_iald (pc := 48) C dX5_isWell_48 3 rfl (i) (by omega) (by omega) (by decide) ?_
              refine z_aload_n (pc := 49) C dX5_isWell_49 0 rfl ?_
              refine z_get (pc := 50) C dX5_isWell_50 zCl5 ffX5_isWell_7 0 rfl rfl ?_
              refine z_bipush (pc := 53) C dX5_isWell_53 (by decide +kernel) ?_
              refine z_iload_n (pc := 55) C dX5_isWell_55 2 rfl ?_
              refine z_iadd (pc := 56) C dX5_isWell_56 ?_
              refine z_iald (pc := 57) C dX5_isWell_57 1 rfl ((7 + i)) (by omega) (by omega) (by decide) ?_
              refine z_icmp_ne (tgt := 65) (pc := 58) C dX5_isWell_58 (by decide) ⟨by omega, by omega⟩ ⟨by omega, by omega⟩ (fun c58 => ?_) (fun c58 => ?_)
              · refine z_iconst (pc := 65) C dX5_isWell_65 ?_
                refine z_istore_n (lv' := [(1, .int (iI 0)), (0, .ref ((B 0))), (2, .int (iI ((i : Int))))]) (pc := 66) C dX5_isWell_66 (by decide) rfl ?_
                refine z_iinc (lv' := [(2, .int (iI (((i : Int) + 1)))), (1, .int (iI 0)), (0, .ref ((B 0)))]) (pc := 67) C dX5_isWell_67 2 rfl (by decide) rfl ?_
                refine z_goto (tgt := 22) (pc := 70) C dX5_isWell_70 (by decide) ?_
                refine z_lv (lv' := [(0, .ref ((B 0))), (1, .int (iI 0)), (2, .int (iI (((i : Int) + 1))))]) [2, 1, 0] rfl ?_
                exact ih (i + 1) 0 (by omega) (by omega) (Or.inr ⟨rfl, fun q => by have := (q.2 i it hit).2; omega⟩)
              · refine z_iconst (pc := 61) C dX5_isWell_61 ?_
                refine z_goto (tgt := 66) (pc := 62) C dX5_isWell_62 (by decide) ?_
                refine z_istore_n (lv' := [(1, .int (iI 1)), (0, .ref ((B 0))), (2, .int (iI ((i : Int))))]) (pc := 66) C dX5_isWell_66 (by decide) rfl ?_
                refine z_iinc (lv' := [(2, .int (iI (((i : Int) + 1)))), (1, .int (iI 1)), (0, .ref ((B 0)))]) (pc := 67) C dX5_isWell_67 2 rfl (by decide) rfl ?_
                refine z_goto (tgt := 22) (pc := 70) C dX5_isWell_70 (by decide) ?_
                refine z_lv (lv' := [(0, .ref ((B 0))), (1, .int (iI 1)), (2, .int (iI (((i : Int) + 1))))]) [2, 1, 0] rfl ?_
                exact ih (i + 1) 1 (by omega) (by omega) (Or.inl ⟨rfl, hlk, fun j it2 hj hj2 => by
                  by_cases hji : j = i
                  · subst hji
                    rw [hit] at hj2
                    cases hj2
                    exact ⟨by omega, by omega⟩
                  · exact hgd j it2 (by omega) hj2⟩)
    refine z_lv (lv' := [(0, .ref ((B 0))), (1, .int (iI 1)), (2, .int (iI 0))]) [2, 1, 0] rfl ?_
    exact L22 (L.length + 1) 0 1 (by omega) (by omega) (Or.inl ⟨rfl, by omega, fun j it hj => absurd hj (by omega)⟩)

theorem nyX5_receive : yX5_receive.cls ≠ "java/lang/invoke/MethodHandle" ∧ yX5_receive.cls ≠ "java/lang/invoke/VarHandle" ∧ (parseMethodDescriptor yX5_receive.desc).map (fun d => d.parameters.length) = some 1 := by decide +kernel
theorem nyX5_isWell : yX5_isWell.cls ≠ "java/lang/invoke/MethodHandle" ∧ yX5_isWell.cls ≠ "java/lang/invoke/VarHandle" ∧ (parseMethodDescriptor yX5_isWell.desc).map (fun d => d.parameters.length) = some 0 := by decide +kernel
set_option maxHeartbeats 4000000 in
set_option maxRecDepth 100000 in
theorem k_X5_isWellWith (l : Launch) (G : ZG) (B : Nat → Nat) (q0 q1 q2 q3 q4 q5 q6 q7 : Nat) (M K0 K1 K2 K3 K4 : Nat → Int) (r : Nat) (s : ZS) (hs : zIs s) (hM : zMs M s) (hr : 4 ≤ r ∧ r ≤ 40) : Kt l G yX5_isWellWith wsX5_isWellWith { frames := 4, cells := 0, slots := 0, locals := 97 } 0 0 False [.ref ((B 0)), .int (iI ((r : Int)))] [((B 0), .inr (5, [.ref ((B 1)), .ref ((B 2)), .int (iI ((q0 : Int))), .ref ((B 3)), .int (iI ((q1 : Int))), .ref ((B 4)), .ref ((B 5)), .int (iI ((q2 : Int))), .int (iI ((q3 : Int))), .int (iI ((q4 : Int))), .ref ((B 6)), .ref ((B 7)), .int (iI ((q5 : Int))), .int (iI ((q6 : Int))), .ref ((B 8)), .ref ((B 9)), .ref ((B 10)), .ref ((B 11)), .ref ((B 12)), .int (iI ((q7 : Int)))])), cI G (B 1) 1547 M, cI G (B 8) 64 K0, cI G (B 9) 64 K1, cI G (B 10) 64 K2, cI G (B 11) 64 K3, cI G (B 12) 64 K4] (fun v9 w9 => ∃ (N0 : Nat → Int) (N1 : Nat → Int) (N2 : Nat → Int) (N3 : Nat → Int) (N4 : Nat → Int) (p5 : Nat) (p6 : Nat) (p7 : Nat), v9 = some (.int (iI ((zwlB s r)))) ∧ w9 = [((B 0), .inr (5, [.ref ((B 1)), .ref ((B 2)), .int (iI ((q0 : Int))), .ref ((B 3)), .int (iI ((q1 : Int))), .ref ((B 4)), .ref ((B 5)), .int (iI ((q2 : Int))), .int (iI ((q3 : Int))), .int (iI ((q4 : Int))), .ref ((B 6)), .ref ((B 7)), .int (iI ((p5 : Int))), .int (iI ((p6 : Int))), .ref ((B 8)), .ref ((B 9)), .ref ((B 10)), .ref ((B 11)), .ref ((B 12)), .int (iI ((p7 : Int)))])), cI G (B 1) 1547 M, cI G (B 8) 64 N0, cI G (B 9) 64 N1, cI G (B 10) 64 N2, cI G (B 11) 64 N3, cI G (B 12) 64 N4]) := by
  refine Kt.of (cc := cX5_isWellWith) (nL := 2) (ret := (some .boolean)) (own := RX5) rfl (by decide +kernel) rfl (Nat.le_of_ble_eq_true rfl) ?_
  intro X Y C R0 hin
  show Z l X G Y 2 0 0 0 [(0, .ref ((B 0))), (1, .int (iI ((r : Int))))] [] [((B 0), .inr (5, [.ref ((B 1)), .ref ((B 2)), .int (iI ((q0 : Int))), .ref ((B 3)), .int (iI ((q1 : Int))), .ref ((B 4)), .ref ((B 5)), .int (iI ((q2 : Int))), .int (iI ((q3 : Int))), .int (iI ((q4 : Int))), .ref ((B 6)), .ref ((B 7)), .int (iI ((q5 : Int))), .int (iI ((q6 : Int))), .ref ((B 8)), .ref ((B 9)), .ref ((B 10)), .ref ((B 11)), .ref ((B 12)), .int (iI ((q7 : Int)))])), cI G (B 1) 1547 M, cI G (B 8) 64 K0, cI G (B 9) 64 K1, cI G (B 10) 64 K2, cI G (B 11) 64 K3, cI G (B 12) 64 K4]
  obtain ⟨m0, m1, m2, m3, m4, m5, m6, he, hk⟩ := zMs_r hs hM
  have hlen := zall_len (b := s.1) (S := s.2.2.1) (e := s.2.2.2.1) he hr
  have hLB : ∀ it ∈ zitems s r, zItB it := zrc_b he hr _ _
  refine z_aload_n (pc := 0) C dX5_isWellWith_0 0 rfl ?_
  refine z_iload_n (pc := 1) C dX5_isWellWith_1 1 rfl ?_
  refine z_callV (As := [.int (iI ((r : Int)))]) (rest := []) (wc := [((B 0), .inr (5, [.ref ((B 1)), .ref ((B 2)), .int (iI ((q0 : Int))), .ref ((B 3)), .int (iI ((q1 : Int))), .ref ((B 4)), .ref ((B 5)), .int (iI ((q2 : Int))), .int (iI ((q3 : Int))), .int (iI ((q4 : Int))), .ref ((B 6)), .ref ((B 7)), .int (iI ((q5 : Int))), .int (iI ((q6 : Int))), .ref ((B 8)), .ref ((B 9)), .ref ((B 10)), .ref ((B 11)), .ref ((B 12)), .int (iI ((q7 : Int)))])), cI G (B 1) 1547 M, cI G (B 8) 64 K0, cI G (B 9) 64 K1, cI G (B 10) 64 K2, cI G (B 11) 64 K3, cI G (B 12) 64 K4]) (wr := []) (fs := [.ref ((B 1)), .ref ((B 2)), .int (iI ((q0 : Int))), .ref ((B 3)), .int (iI ((q1 : Int))), .ref ((B 4)), .ref ((B 5)), .int (iI ((q2 : Int))), .int (iI ((q3 : Int))), .int (iI ((q4 : Int))), .ref ((B 6)), .ref ((B 7)), .int (iI ((q5 : Int))), .int (iI ((q6 : Int))), .ref ((B 8)), .ref ((B 9)), .ref ((B 10)), .ref ((B 11)), .ref ((B 12)), .int (iI ((q7 : Int)))]) (pc := 2) C dX5_isWellWith_2 (k_X5_receive l G B q0 q1 q2 q3 q4 q5 q6 q7 M K0 K1 K2 K3 K4 r s hs hM hr) gX5_isWellWith_X5_receive ⟨⟨_, rfl⟩, ⟨rfl, rfl⟩, nyX5_receive, ⟨Nat.le_of_ble_eq_true rfl, Nat.le_of_ble_eq_true rfl⟩⟩ rfl zCl5 rfl (fun h => h) rfl (Nat.le_of_ble_eq_true rfl) [0, 1, 2, 3, 4, 5, 6] [] rfl rfl (by decide) (by decide) (by decide) ⟨Nat.le_of_ble_eq_true rfl, Nat.le_of_ble_eq_true rfl⟩ (fun v w hk => ?_)
  obtain ⟨N0_2, N1_2, N2_2, N3_2, N4_2, h2_0, rfl, rfl⟩ := hk
  refine z_fix (pc2 := 5) (st2 := []) (ws' := [((B 0), .inr (5, [.ref ((B 1)), .ref ((B 2)), .int (iI ((q0 : Int))), .ref ((B 3)), .int (iI ((q1 : Int))), .ref ((B 4)), .ref ((B 5)), .int (iI ((q2 : Int))), .int (iI ((q3 : Int))), .int (iI ((q4 : Int))), .ref ((B 6)), .ref ((B 7)), .int (iI ((((zitems s r).length : Nat) : Int))), .int (iI ((((zfls s.1 s.2.2.1 s.2.2.2.1 r) : Nat) : Int))), .ref ((B 8)), .ref ((B 9)), .ref ((B 10)), .ref ((B 11)), .ref ((B 12)), .int (iI ((((zds (zitems s r) (zitems s r).length) : Nat) : Int)))])), cI G (B 1) 1547 M, cI G (B 8) 64 N0_2, cI G (B 9) 64 N1_2, cI G (B 10) 64 N2_2, cI G (B 11) 64 N3_2, cI G (B 12) 64 N4_2]) [0, 1, 2, 3, 4, 5, 6] rfl rfl rfl (by decide) ?_
  refine z_aload_n (pc := 5) C dX5_isWellWith_5 0 rfl ?_
  refine z_callV (As := []) (rest := []) (wc := [((B 0), .inr (5, [.ref ((B 1)), .ref ((B 2)), .int (iI ((q0 : Int))), .ref ((B 3)), .int (iI ((q1 : Int))), .ref ((B 4)), .ref ((B 5)), .int (iI ((q2 : Int))), .int (iI ((q3 : Int))), .int (iI ((q4 : Int))), .ref ((B 6)), .ref ((B 7)), .int (iI ((((zitems s r).length : Nat) : Int))), .int (iI ((((zfls s.1 s.2.2.1 s.2.2.2.1 r) : Nat) : Int))), .ref ((B 8)), .ref ((B 9)), .ref ((B 10)), .ref ((B 11)), .ref ((B 12)), .int (iI ((((zds (zitems s r) (zitems s r).length) : Nat) : Int)))])), cI G (B 1) 1547 M, cI G (B 8) 64 N0_2, cI G (B 9) 64 N1_2, cI G (B 10) 64 N2_2, cI G (B 11) 64 N3_2, cI G (B 12) 64 N4_2]) (wr := []) (fs := [.ref ((B 1)), .ref ((B 2)), .int (iI ((q0 : Int))), .ref ((B 3)), .int (iI ((q1 : Int))), .ref ((B 4)), .ref ((B 5)), .int (iI ((q2 : Int))), .int (iI ((q3 : Int))), .int (iI ((q4 : Int))), .ref ((B 6)), .ref ((B 7)), .int (iI ((((zitems s r).length : Nat) : Int))), .int (iI ((((zfls s.1 s.2.2.1 s.2.2.2.1 r) : Nat) : Int))), .ref ((B 8)), .ref ((B 9)), .ref ((B 10)), .ref ((B 11)), .ref ((B 12)), .int (iI ((((zds (zitems s r) (zitems s r).length) : Nat) : Int)))]) (pc := 6) C dX5_isWellWith_6 (k_X5_isWell l G B q0 q1 q2 q3 q4 ((zitems s r).length) (zfls s.1 s.2.2.1 s.2.2.2.1 r) (zds (zitems s r) (zitems s r).length) M N0_2 N1_2 N2_2 N3_2 N4_2 s (zitems s r) hs hM rfl h2_0 hlen.1 hLB) gX5_isWellWith_X5_isWell ⟨⟨_, rfl⟩, ⟨rfl, rfl⟩, nyX5_isWell, ⟨Nat.le_of_ble_eq_true rfl, Nat.le_of_ble_eq_true rfl⟩⟩ rfl zCl5 rfl (fun h => h) rfl (Nat.le_of_ble_eq_true rfl) [0, 1, 2, 3, 4, 5, 6] [] rfl rfl (by decide) (by decide) (by decide) ⟨Nat.le_of_ble_eq_true rfl, Nat.le_of_ble_eq_true rfl⟩ (fun v w hk => ?_)
  obtain ⟨rr_6, h6_0, rfl, rfl⟩ := hk
  refine z_fix (pc2 := 9) (st2 := [.int (iI rr_6)]) (ws' := [((B 0), .inr (5, [.ref ((B 1)), .ref ((B 2)), .int (iI ((q0 : Int))), .ref ((B 3)), .int (iI ((q1 : Int))), .ref ((B 4)), .ref ((B 5)), .int (iI ((q2 : Int))), .int (iI ((q3 : Int))), .int (iI ((q4 : Int))), .ref ((B 6)), .ref ((B 7)), .int (iI ((((zitems s r).length : Nat) : Int))), .int (iI ((((zfls s.1 s.2.2.1 s.2.2.2.1 r) : Nat) : Int))), .ref ((B 8)), .ref ((B 9)), .ref ((B 10)), .ref ((B 11)), .ref ((B 12)), .int (iI ((((zds (zitems s r) (zitems s r).length) : Nat) : Int)))])), cI G (B 1) 1547 M, cI G (B 8) 64 N0_2, cI G (B 9) 64 N1_2, cI G (B 10) 64 N2_2, cI G (B 11) 64 N3_2, cI G (B 12) 64 N4_2]) [0, 1, 2, 3, 4, 5, 6] rfl rfl rfl (by decide) ?_
  have hx : zwlB s r = rr_6 := by
    rcases h6_0 with zz | zz
    · rw [zz.1]; exact zwlB_t zz.2
    · rw [zz.1]; exact zwlB_f zz.2
  exact z_zret (pc := 9) C R0 ((by rcases h6_0 with zz | zz <;> (rw [zz.1]; decide))) dX5_isWellWith_9 (⟨_, _, _, _, _, _, _, _, by rw [hx], rfl⟩)
