/-! THE LAW, walked: what it receives -/
theorem nyL_looks : yL_looks.cls ≠ "java/lang/invoke/MethodHandle" ∧ yL_looks.cls ≠ "java/lang/invoke/VarHandle" ∧ (parseMethodDescriptor yL_looks.desc).map (fun d => d.parameters.length) = some 4 := by decide +kernel
set_option maxHeartbeats 4000000 in
set_option maxRecDepth 100000 in
theorem k_L_receives (l : Launch) (G : ZG) (aq aw al af ag : Nat) (q : Nat → Int) (w : Nat → Int) (c : Nat → Bool) (f : Nat → Int) (g : Nat → Int) (r : Nat) (rk : Nat) (s : ZS) (hr : 4 ≤ r ∧ r ≤ 40) (hrk : rk ≤ 2000) (hS : zLq q c s) (hW : zLv w s) : Kt l G yL_receives wsL_receives { frames := 2, cells := 0, slots := 0, locals := 48 } 0 0 False [.int (iI ((r : Int))), .int (iI ((rk : Int))), .ref aq, .ref aw, .ref al, .ref af, .ref ag] [cI G aq 7 q, cI G aw 40 w, cI G al 51 (zlr c), cI G af 7 f, cI G ag 5 g] (fun v9 w9 => ∃ (f9 : Nat → Int) (g9 : Nat → Int), (zFr f9 (zitems s r) (zfls s.1 s.2.2.1 s.2.2.2.1 r)) ∧ (zGr g9 (zitems s r) rk) ∧ v9 = some (.int (iI ((zwlB s r)))) ∧ w9 = [cI G aq 7 q, cI G aw 40 w, cI G al 51 (zlr c), cI G af 7 f9, cI G ag 5 g9]) := by
  refine Kt.of (cc := cL_receives) (nL := 16) (ret := (some .boolean)) (own := RL) rfl (by decide +kernel) rfl (Nat.le_of_ble_eq_true rfl) ?_
  intro X Y C R0 hin
  show Z l X G Y 16 0 0 0 [(0, .int (iI ((r : Int)))), (1, .int (iI ((rk : Int)))), (2, .ref aq), (3, .ref aw), (4, .ref al), (5, .ref af), (6, .ref ag)] [] [cI G aq 7 q, cI G aw 40 w, cI G al 51 (zlr c), cI G af 7 f, cI G ag 5 g]
  obtain ⟨m0, m1, m2, m3, m4, m5, m6, he, hk⟩ := zLq_r hS
  have hIs := hS.1
  obtain ⟨_, _, hbb, t0, t1, t2, t3, t4, hwb9⟩ := id hIs
  have hst9 := zst9_b s.2.2.1
  refine z_iconst (pc := 0) C dL_receives_0 ?_
  refine z_istore (lv' := [(7, .int (iI 1)), (0, .int (iI ((r : Int)))), (1, .int (iI ((rk : Int)))), (2, .ref aq), (3, .ref aw), (4, .ref al), (5, .ref af), (6, .ref ag)]) (pc := 1) C dL_receives_1 (by decide) rfl ?_
  have J16 : Z l X G Y 16 0 0 16 [(7, .int (iI 1)), (0, .int (iI ((r : Int)))), (1, .int (iI ((rk : Int)))), (2, .ref aq), (3, .ref aw), (4, .ref al), (5, .ref af), (6, .ref ag)] [.int (iI ((((zst9 s.2.2.1 + 1) : Nat) : Int)))] [cI G aq 7 q, cI G aw 40 w, cI G al 51 (zlr c), cI G af 7 f, cI G ag 5 g] := by
    refine z_istore (lv' := [(8, .int (iI ((((zst9 s.2.2.1 + 1) : Nat) : Int)))), (7, .int (iI 1)), (0, .int (iI ((r : Int)))), (1, .int (iI ((rk : Int)))), (2, .ref aq), (3, .ref aw), (4, .ref al), (5, .ref af), (6, .ref ag)]) (pc := 16) C dL_receives_16 (by decide) rfl ?_
    refine z_iconst (pc := 18) C dL_receives_18 ?_
    refine z_istore (lv' := [(9, .int (iI 0)), (8, .int (iI ((((zst9 s.2.2.1 + 1) : Nat) : Int)))), (7, .int (iI 1)), (0, .int (iI ((r : Int)))), (1, .int (iI ((rk : Int)))), (2, .ref aq), (3, .ref aw), (4, .ref al), (5, .ref af), (6, .ref ag)]) (pc := 19) C dL_receives_19 (by decide) rfl ?_
    have L21 : ∀ (m : Nat) (i : Nat) (f1 : Nat → Int), 7 < i + m → i ≤ 7 → (∀ j, j < i → f1 j = 0) → Z l X G Y 16 0 0 21 [(0, .int (iI ((r : Int)))), (1, .int (iI ((rk : Int)))), (2, .ref aq), (3, .ref aw), (4, .ref al), (5, .ref af), (6, .ref ag), (7, .int (iI 1)), (8, .int (iI ((((zst9 s.2.2.1 + 1) : Nat) : Int)))), (9, .int (iI ((i : Int))))] [] [cI G aq 7 q, cI G aw 40 w, cI G al 51 (zlr c), cI G af 7 f1, cI G ag 5 g] := by
      intro m
      induction m with
      | zero => intro i f1 hn hi hf0; exact absurd hn (by omega)
      | succ m ih =>
        intro i f1 hn hi hf0
        refine z_iload (pc := 21) C dL_receives_21 9 rfl ?_
        refine z_bipush (pc := 23) C dL_receives_23 (by decide +kernel) ?_
        refine z_icmp_ge (tgt := 40) (pc := 25) C dL_receives_25 (by decide) ⟨by omega, by omega⟩ (by decide) (fun c25 => ?_) (fun c25 => ?_)
        · obtain rfl : i = 7 := by omega
          refine z_iconst (pc := 40) C dL_receives_40 ?_
          refine z_istore (lv' := [(9, .int (iI 0)), (0, .int (iI ((r : Int)))), (1, .int (iI ((rk : Int)))), (2, .ref aq), (3, .ref aw), (4, .ref al), (5, .ref af), (6, .ref ag), (7, .int (iI 1)), (8, .int (iI ((((zst9 s.2.2.1 + 1) : Nat) : Int))))]) (pc := 41) C dL_receives_41 (by decide) rfl ?_
          have L43 : ∀ (n : Nat) (t fs : Nat) (L : List ZIt) (f1 g1 : Nat → Int) (z : Int), 3001 < t + n → 39 * L.length ≤ t → fs ≤ t → t ≤ 3000 → zFr f1 L fs → zGr g1 L rk → zpb2 z L s.2.1 s.2.2.2.2 → L ++ (zrc s.1 s.2.2.1 s.2.2.2.1 r (s.2.2.2.1 + 1) t).1 = zitems s r → fs + (zrc s.1 s.2.2.1 s.2.2.2.1 r (s.2.2.2.1 + 1) t).2 = zfls s.1 s.2.2.1 s.2.2.2.1 r → Z l X G Y 16 0 0 43 [(0, .int (iI ((r : Int)))), (1, .int (iI ((rk : Int)))), (2, .ref aq), (3, .ref aw), (4, .ref al), (5, .ref af), (6, .ref ag), (7, .int (iI z)), (8, .int (iI ((((zst9 s.2.2.1 + 1) : Nat) : Int)))), (9, .int (iI ((t : Int))))] [] [cI G aq 7 q, cI G aw 40 w, cI G al 51 (zlr c), cI G af 7 f1, cI G ag 5 g1] := by
            intro n
            induction n with
            | zero => intro t fs L f1 g1 z hn hl hfs ht hF hG hz hA hB; exact absurd hn (by omega)
            | succ n ih =>
              intro t fs L f1 g1 z hn hl hfs ht hF hG hz hA hB
              have ihM := ih
              have hN := hn
              refine z_iload (pc := 43) C dL_receives_43 9 rfl ?_
              refine z_aload_n (pc := 45) C dL_receives_45 2 rfl ?_
              refine z_iconst (pc := 46) C dL_receives_46 ?_
              refine z_iald (pc := 47) C dL_receives_47 0 rfl (5) (rfl) (by omega) (by decide) ?_
              refine z_icmp_ge (tgt := 421) (pc := 48) C dL_receives_48 (by decide) ⟨by omega, by omega⟩ ⟨by omega, by omega⟩ (fun c48 => ?_) (fun c48 => ?_)
              · have hend := zrc_end (b := s.1) (S := s.2.2.1) (r := r) (n := s.2.2.2.1 + 1) (show s.2.2.2.1 ≤ znf s.1 s.2.2.2.1 t by rw [znf_end (by omega)]; exact Nat.le_refl _)
                rw [hend] at hA hB
                rw [List.append_nil] at hA
                subst hA
                have hB2 : fs = zfls s.1 s.2.2.1 s.2.2.2.1 r := hB
                subst hB2
                have hzr : z = 0 ∨ z = 1 := hz.elim (fun q => Or.inr q.1) (fun q => Or.inl q.1)
                have hF0 := hF.1
                have hlen := zall_len (b := s.1) (S := s.2.2.1) (e := s.2.2.2.1) he hr
                have hlen2 : (zitems s r).length ≤ 39 := hlen.1
                refine z_iload (pc := 421) C dL_receives_421 7 rfl ?_
                refine z_if_eq (tgt := 441) (pc := 423) C dL_receives_423 (by decide) ⟨by omega, by omega⟩ (fun c423 => ?_) (fun c423 => ?_)
                · refine z_iconst (pc := 441) C dL_receives_441 ?_
                  refine z_topi (y := (zwlB s r)) ((zwlB_f (fun q => (hz.resolve_left (fun y => absurd y.1 (by omega))).2 (zpw_well.mp q).1)).symm) ?_
                  exact z_zret (pc := 442) C R0 ((by rcases zwlB_b s r with y | y <;> (rw [y]; decide))) dL_receives_442 (⟨_, _, hF, hG, rfl, rfl⟩)
                · refine z_aload (pc := 426) C dL_receives_426 5 rfl ?_
                  refine z_iconst (pc := 428) C dL_receives_428 ?_
                  refine z_iald (pc := 429) C dL_receives_429 3 rfl (0) (rfl) (by omega) (by decide) ?_
                  refine z_aload_n (pc := 430) C dL_receives_430 2 rfl ?_
                  refine z_bipush (pc := 431) C dL_receives_431 (by decide +kernel) ?_
                  refine z_iald (pc := 433) C dL_receives_433 0 rfl (6) (rfl) (by omega) (by decide) ?_
                  refine z_icmp_ne (tgt := 441) (pc := 434) C dL_receives_434 (by decide) ⟨by omega, by omega⟩ ⟨by omega, by omega⟩ (fun c434 => ?_) (fun c434 => ?_)
                  · refine z_iconst (pc := 441) C dL_receives_441 ?_
                    refine z_topi (y := (zwlB s r)) ((zwlB_f (fun q => by have h9 := (zpw_well.mp q).2; omega)).symm) ?_
                    exact z_zret (pc := 442) C R0 ((by rcases zwlB_b s r with y | y <;> (rw [y]; decide))) dL_receives_442 (⟨_, _, hF, hG, rfl, rfl⟩)
                  · refine z_iconst (pc := 437) C dL_receives_437 ?_
                    refine z_goto (tgt := 442) (pc := 438) C dL_receives_438 (by decide) ?_
                    refine z_topi (y := (zwlB s r)) ((zwlB_t (zpw_well.mpr ⟨(hz.resolve_right (fun y => absurd y.1 (by omega))).2, by omega⟩)).symm) ?_
                    exact z_zret (pc := 442) C R0 ((by rcases zwlB_b s r with y | y <;> (rw [y]; decide))) dL_receives_442 (⟨_, _, hF, hG, rfl, rfl⟩)
              · have hv0 := zlv_b s.1 (t : Int)
                have hv1 := zlv_b s.1 ((t : Int) - 1)
                refine z_iload (pc := 51) C dL_receives_51 9 rfl ?_
                refine z_aload_n (pc := 53) C dL_receives_53 2 rfl ?_
                refine z_aload (pc := 54) C dL_receives_54 4 rfl ?_
                refine z_callS (As := [.int (iI ((t : Int))), .ref aq, .ref al]) (rest := []) (wc := [cI G aq 7 q, cI G al 51 (zlr c)]) (wr := [cI G aw 40 w, cI G af 7 f1, cI G ag 5 g1]) (pc := 56) C dL_receives_56 (k_L_level l G aq al q c (t : Int) s ⟨by omega, by omega⟩ hS) gL_receives_L_level ⟨⟨_, rfl⟩, ⟨rfl, rfl⟩, nyL_level, ⟨Nat.le_of_ble_eq_true rfl, Nat.le_of_ble_eq_true rfl⟩⟩ (fun h => h) rfl (Nat.le_of_ble_eq_true rfl) [0, 2] [1, 3, 4] rfl rfl (by decide) (by decide) (by decide) ⟨Nat.le_of_ble_eq_true rfl, Nat.le_of_ble_eq_true rfl⟩ (fun v w hk => ?_)
                obtain ⟨rfl, rfl⟩ := hk
                refine z_fix (pc2 := 59) (st2 := [.int (iI ((zlv s.1 (t : Int))))]) (ws' := [cI G aq 7 q, cI G aw 40 w, cI G al 51 (zlr c), cI G af 7 f1, cI G ag 5 g1]) [3, 0, 4, 1, 2] rfl rfl rfl (by decide) ?_
                refine z_iconst (pc := 59) C dL_receives_59 ?_
                refine z_icmp_eq (tgt := 76) (pc := 60) C dL_receives_60 (by decide) ⟨by omega, by omega⟩ (by decide) (fun c60 => ?_) (fun c60 => ?_)
                · refine z_iinc (lv' := [(9, .int (iI (((t : Int) + 1)))), (0, .int (iI ((r : Int)))), (1, .int (iI ((rk : Int)))), (2, .ref aq), (3, .ref aw), (4, .ref al), (5, .ref af), (6, .ref ag), (7, .int (iI z)), (8, .int (iI ((((zst9 s.2.2.1 + 1) : Nat) : Int))))]) (pc := 76) C dL_receives_76 9 rfl (by decide) rfl ?_
                  refine z_goto (tgt := 43) (pc := 79) C dL_receives_79 (by decide) ?_
                  refine z_lv (lv' := [(0, .int (iI ((r : Int)))), (1, .int (iI ((rk : Int)))), (2, .ref aq), (3, .ref aw), (4, .ref al), (5, .ref af), (6, .ref ag), (7, .int (iI z)), (8, .int (iI ((((zst9 s.2.2.1 + 1) : Nat) : Int)))), (9, .int (iI (((t : Int) + 1))))]) [1, 2, 3, 4, 5, 6, 7, 8, 9, 0] rfl ?_
                  exact ihM (t + 1) fs L f1 g1 z (by omega) (by omega) (by omega) (by omega) hF hG hz (by rw [← zrc_step (by omega) (zfall_n (Or.inl (by omega)))]; exact hA) (by rw [← zrc_step (by omega) (zfall_n (Or.inl (by omega)))]; exact hB)
                · refine z_iload (pc := 63) C dL_receives_63 9 rfl ?_
                  refine z_iconst (pc := 65) C dL_receives_65 ?_
                  refine z_isub (pc := 66) C dL_receives_66 ?_
                  refine z_aload_n (pc := 67) C dL_receives_67 2 rfl ?_
                  refine z_aload (pc := 68) C dL_receives_68 4 rfl ?_
                  refine z_callS (As := [.int (iI (((t : Int) - 1))), .ref aq, .ref al]) (rest := []) (wc := [cI G aq 7 q, cI G al 51 (zlr c)]) (wr := [cI G aw 40 w, cI G af 7 f1, cI G ag 5 g1]) (pc := 70) C dL_receives_70 (k_L_level l G aq al q c ((t : Int) - 1) s ⟨by omega, by omega⟩ hS) gL_receives_L_level ⟨⟨_, rfl⟩, ⟨rfl, rfl⟩, nyL_level, ⟨Nat.le_of_ble_eq_true rfl, Nat.le_of_ble_eq_true rfl⟩⟩ (fun h => h) rfl (Nat.le_of_ble_eq_true rfl) [0, 2] [1, 3, 4] rfl rfl (by decide) (by decide) (by decide) ⟨Nat.le_of_ble_eq_true rfl, Nat.le_of_ble_eq_true rfl⟩ (fun v w hk => ?_)
                  obtain ⟨rfl, rfl⟩ := hk
                  refine z_fix (pc2 := 73) (st2 := [.int (iI ((zlv s.1 ((t : Int) - 1))))]) (ws' := [cI G aq 7 q, cI G aw 40 w, cI G al 51 (zlr c), cI G af 7 f1, cI G ag 5 g1]) [3, 0, 4, 1, 2] rfl rfl rfl (by decide) ?_
                  refine z_if_ne (tgt := 82) (pc := 73) C dL_receives_73 (by decide) ⟨by omega, by omega⟩ (fun c73 => ?_) (fun c73 => ?_)
                  · have hlt : t < s.2.2.2.1 := by omega
                    have hft := zfall_y (b := s.1) (t := t) (by omega) (by omega)
                    have hnf : znf s.1 s.2.2.2.1 t = t := znf_fall hlt hft
                    have hzi := zit_b (b := s.1) (S := s.2.2.1) (t := t) (by omega) hr
                    have hzl := zlast_b (S := s.2.2.1) (t := t) hr
                    have hzg := zgo_b (b := s.1) (S := s.2.2.1) (t := t) hr
                    obtain ⟨hk1, hk2, hk3⟩ := zlk_b s.1 (s.2.2.1 4) t r
                    have hvb := zvo_b s.1 (s.2.2.1 4) t r
                    refine z_iload (pc := 82) C dL_receives_82 9 rfl ?_
                    refine z_iload_n (pc := 84) C dL_receives_84 0 rfl ?_
                    refine z_aload_n (pc := 85) C dL_receives_85 2 rfl ?_
                    refine z_aload (pc := 86) C dL_receives_86 4 rfl ?_
                    refine z_callS (As := [.int (iI ((t : Int))), .int (iI ((r : Int))), .ref aq, .ref al]) (rest := []) (wc := [cI G aq 7 q, cI G al 51 (zlr c)]) (wr := [cI G aw 40 w, cI G af 7 f1, cI G ag 5 g1]) (pc := 88) C dL_receives_88 (k_L_looks l G aq al q c t r s (by omega) hr hS) gL_receives_L_looks ⟨⟨_, rfl⟩, ⟨rfl, rfl⟩, nyL_looks, ⟨Nat.le_of_ble_eq_true rfl, Nat.le_of_ble_eq_true rfl⟩⟩ (fun h => h) rfl (Nat.le_of_ble_eq_true rfl) [0, 2] [1, 3, 4] rfl rfl (by decide) (by decide) (by decide) ⟨Nat.le_of_ble_eq_true rfl, Nat.le_of_ble_eq_true rfl⟩ (fun v w hk => ?_)
                    obtain ⟨rfl, rfl⟩ := hk
                    refine z_fix (pc2 := 91) (st2 := [.int (iI ((((zlk s.1 (s.2.2.1 4) t r) : Nat) : Int)))]) (ws' := [cI G aq 7 q, cI G aw 40 w, cI G al 51 (zlr c), cI G af 7 f1, cI G ag 5 g1]) [3, 0, 4, 1, 2] rfl rfl rfl (by decide) ?_
                    refine z_bipush (pc := 91) C dL_receives_91 (by decide +kernel) ?_
                    refine z_icmp_lt (tgt := 119) (pc := 93) C dL_receives_93 (by decide) ⟨by omega, by omega⟩ (by decide) (fun c93 => ?_) (fun c93 => ?_)
                    · have hv : zvo s.1 (s.2.2.1 4) t r = 0 := by omega
                      have hv2 : ¬ zvo s.1 (s.2.2.1 4) (znf s.1 s.2.2.2.1 t) r = 1 := by rw [hnf]; omega
                      have hA2 : L ++ ((zit s.1 s.2.2.1 t r) :: (zrc s.1 s.2.2.1 s.2.2.2.1 r (s.2.2.2.1 + 1) (zgo s.1 s.2.2.1 t r)).1) = zitems s r ∧ fs + (zrc s.1 s.2.2.1 s.2.2.2.1 r (s.2.2.2.1 + 1) (zgo s.1 s.2.2.1 t r)).2 = zfls s.1 s.2.2.1 s.2.2.2.1 r := by
                        rw [zrc_item (by rw [hnf]; exact hlt) hv2, hnf, zrc_more hr s.2.2.2.1 (s.2.2.2.1 + 1) _ (by omega) (by omega)] at hA hB
                        exact ⟨hA, hB⟩
                      refine z_iconst (pc := 119) C dL_receives_119 ?_
                      refine z_istore (lv' := [(10, .int (iI 0)), (0, .int (iI ((r : Int)))), (1, .int (iI ((rk : Int)))), (2, .ref aq), (3, .ref aw), (4, .ref al), (5, .ref af), (6, .ref ag), (7, .int (iI z)), (8, .int (iI ((((zst9 s.2.2.1 + 1) : Nat) : Int)))), (9, .int (iI ((t : Int))))]) (pc := 120) C dL_receives_120 (by decide) rfl ?_
                      refine z_iconst (pc := 122) C dL_receives_122 ?_
                      refine z_istore (lv' := [(11, .int (iI 0)), (10, .int (iI 0)), (0, .int (iI ((r : Int)))), (1, .int (iI ((rk : Int)))), (2, .ref aq), (3, .ref aw), (4, .ref al), (5, .ref af), (6, .ref ag), (7, .int (iI z)), (8, .int (iI ((((zst9 s.2.2.1 + 1) : Nat) : Int)))), (9, .int (iI ((t : Int))))]) (pc := 123) C dL_receives_123 (by decide) rfl ?_
                      refine z_iconst (pc := 125) C dL_receives_125 ?_
                      refine z_istore (lv' := [(12, .int (iI 0)), (11, .int (iI 0)), (10, .int (iI 0)), (0, .int (iI ((r : Int)))), (1, .int (iI ((rk : Int)))), (2, .ref aq), (3, .ref aw), (4, .ref al), (5, .ref af), (6, .ref ag), (7, .int (iI z)), (8, .int (iI ((((zst9 s.2.2.1 + 1) : Nat) : Int)))), (9, .int (iI ((t : Int))))]) (pc := 126) C dL_receives_126 (by decide) rfl ?_
                      have L128 : ∀ (m : Nat) (i : Nat), (zst9 s.2.2.1 + 1) < i + m → i ≤ (zst9 s.2.2.1 + 1) → Z l X G Y 16 0 0 128 [(0, .int (iI ((r : Int)))), (1, .int (iI ((rk : Int)))), (2, .ref aq), (3, .ref aw), (4, .ref al), (5, .ref af), (6, .ref ag), (7, .int (iI z)), (8, .int (iI ((((zst9 s.2.2.1 + 1) : Nat) : Int)))), (9, .int (iI ((t : Int)))), (10, .int (iI ((((ztl s.1 (s.2.2.1 4) t r i) : Nat) : Int)))), (11, .int (iI ((((zdl s.1 t r i) : Nat) : Int)))), (12, .int (iI ((i : Int))))] [] [cI G aq 7 q, cI G aw 40 w, cI G al 51 (zlr c), cI G af 7 f1, cI G ag 5 g1] := by
                        intro m
                        induction m with
                        | zero => intro i hn hi; exact absurd hn (by omega)
                        | succ m ih =>
                          intro i hn hi
                          refine z_iload (pc := 128) C dL_receives_128 12 rfl ?_
                          refine z_iload (pc := 130) C dL_receives_130 8 rfl ?_
                          refine z_icmp_ge (tgt := 198) (pc := 132) C dL_receives_132 (by decide) ⟨by omega, by omega⟩ ⟨by omega, by omega⟩ (fun c132 => ?_) (fun c132 => ?_)
                          · obtain rfl : i = (zst9 s.2.2.1 + 1) := by omega
                            have hzac := zac_2048 s.1 (s.2.2.1 4) t r (n := zst9 s.2.2.1) (by omega)
                            refine z_iload (pc := 198) C dL_receives_198 10 rfl ?_
                            refine z_topi (y := (((zac s.1 (s.2.2.1 4) t r (zst9 s.2.2.1)) : Nat) : Int)) (rfl) ?_
                            refine z_iconst (pc := 200) C dL_receives_200 ?_
                            refine z_ishr (pc := 201) C dL_receives_201 ⟨by omega, by omega⟩ ⟨by omega, by omega⟩ ?_
                            refine z_topi (y := ((((zac s.1 (s.2.2.1 4) t r (zst9 s.2.2.1)) / 2) : Nat) : Int)) (zdiv_pow _ 1) ?_
                            refine z_sipush (pc := 202) C dL_receives_202 (by decide +kernel) ?_
                            refine z_iand (pc := 205) C dL_receives_205 ⟨by omega, by omega⟩ ⟨by omega, by omega⟩ ?_
                            refine z_topi (y := ((((zac s.1 (s.2.2.1 4) t r (zst9 s.2.2.1)) / 2 % 256) : Nat) : Int)) (zand255 _) ?_
                            refine z_istore (lv' := [(12, .int (iI (((((zac s.1 (s.2.2.1 4) t r (zst9 s.2.2.1)) / 2 % 256) : Nat) : Int)))), (0, .int (iI ((r : Int)))), (1, .int (iI ((rk : Int)))), (2, .ref aq), (3, .ref aw), (4, .ref al), (5, .ref af), (6, .ref ag), (7, .int (iI z)), (8, .int (iI ((((zst9 s.2.2.1 + 1) : Nat) : Int)))), (9, .int (iI ((t : Int)))), (10, .int (iI ((((ztl s.1 (s.2.2.1 4) t r (zst9 s.2.2.1 + 1)) : Nat) : Int)))), (11, .int (iI ((((zdl s.1 t r (zst9 s.2.2.1 + 1)) : Nat) : Int))))]) (pc := 206) C dL_receives_206 (by decide) rfl ?_
                            refine z_iload (pc := 208) C dL_receives_208 11 rfl ?_
                            refine z_topi (y := (((zac s.1 (s.2.2.1 4) t r (zst9 s.2.2.1)) : Nat) : Int)) (rfl) ?_
                            refine z_iload (pc := 210) C dL_receives_210 9 rfl ?_
                            refine z_iconst (pc := 212) C dL_receives_212 ?_
                            refine z_isub (pc := 213) C dL_receives_213 ?_
                            refine z_topi (y := (((zst9 s.2.2.1) : Nat) : Int)) (by omega) ?_
                            refine z_ishr (pc := 214) C dL_receives_214 ⟨by omega, by omega⟩ ⟨by omega, by omega⟩ ?_
                            refine z_topi (y := ((((zac s.1 (s.2.2.1 4) t r (zst9 s.2.2.1)) / 2 ^ zst9 s.2.2.1) : Nat) : Int)) (zdiv_pow _ _) ?_
                            refine z_iconst (pc := 215) C dL_receives_215 ?_
                            have hdq : (zac s.1 (s.2.2.1 4) t r (zst9 s.2.2.1)) / 2 ^ zst9 s.2.2.1 ≤ (zac s.1 (s.2.2.1 4) t r (zst9 s.2.2.1)) := Nat.div_le_self _ _
                            refine z_iand (pc := 216) C dL_receives_216 ⟨Int.natCast_nonneg _, Int.le_trans (Int.ofNat_le.mpr hdq) (by omega)⟩ (by decide) ?_
                            refine z_topi (y := ((((zac s.1 (s.2.2.1 4) t r (zst9 s.2.2.1)) / 2 ^ zst9 s.2.2.1 % 2) : Nat) : Int)) (by rw [zand1 (Int.natCast_nonneg _)]; exact (Int.natCast_emod _ _).symm) ?_
                            refine z_istore (lv' := [(13, .int (iI (((((zac s.1 (s.2.2.1 4) t r (zst9 s.2.2.1)) / 2 ^ zst9 s.2.2.1 % 2) : Nat) : Int)))), (12, .int (iI (((((zac s.1 (s.2.2.1 4) t r (zst9 s.2.2.1)) / 2 % 256) : Nat) : Int)))), (0, .int (iI ((r : Int)))), (1, .int (iI ((rk : Int)))), (2, .ref aq), (3, .ref aw), (4, .ref al), (5, .ref af), (6, .ref ag), (7, .int (iI z)), (8, .int (iI ((((zst9 s.2.2.1 + 1) : Nat) : Int)))), (9, .int (iI ((t : Int)))), (10, .int (iI ((((ztl s.1 (s.2.2.1 4) t r (zst9 s.2.2.1 + 1)) : Nat) : Int)))), (11, .int (iI ((((zdl s.1 t r (zst9 s.2.2.1 + 1)) : Nat) : Int))))]) (pc := 217) C dL_receives_217 (by decide) rfl ?_
                            have J264 : Z l X G Y 16 0 0 264 [(13, .int (iI (((((zac s.1 (s.2.2.1 4) t r (zst9 s.2.2.1)) / 2 ^ zst9 s.2.2.1 % 2) : Nat) : Int)))), (12, .int (iI (((((zac s.1 (s.2.2.1 4) t r (zst9 s.2.2.1)) / 2 % 256) : Nat) : Int)))), (0, .int (iI ((r : Int)))), (1, .int (iI ((rk : Int)))), (2, .ref aq), (3, .ref aw), (4, .ref al), (5, .ref af), (6, .ref ag), (7, .int (iI z)), (8, .int (iI ((((zst9 s.2.2.1 + 1) : Nat) : Int)))), (9, .int (iI ((t : Int)))), (10, .int (iI ((((ztl s.1 (s.2.2.1 4) t r (zst9 s.2.2.1 + 1)) : Nat) : Int)))), (11, .int (iI ((((zdl s.1 t r (zst9 s.2.2.1 + 1)) : Nat) : Int))))] [.int (iI ((zit s.1 s.2.2.1 t r).1))] [cI G aq 7 q, cI G aw 40 w, cI G al 51 (zlr c), cI G af 7 f1, cI G ag 5 g1] := by
                              refine z_istore (lv' := [(14, .int (iI ((zit s.1 s.2.2.1 t r).1))), (13, .int (iI (((((zac s.1 (s.2.2.1 4) t r (zst9 s.2.2.1)) / 2 ^ zst9 s.2.2.1 % 2) : Nat) : Int)))), (12, .int (iI (((((zac s.1 (s.2.2.1 4) t r (zst9 s.2.2.1)) / 2 % 256) : Nat) : Int)))), (0, .int (iI ((r : Int)))), (1, .int (iI ((rk : Int)))), (2, .ref aq), (3, .ref aw), (4, .ref al), (5, .ref af), (6, .ref ag), (7, .int (iI z)), (8, .int (iI ((((zst9 s.2.2.1 + 1) : Nat) : Int)))), (9, .int (iI ((t : Int)))), (10, .int (iI ((((ztl s.1 (s.2.2.1 4) t r (zst9 s.2.2.1 + 1)) : Nat) : Int)))), (11, .int (iI ((((zdl s.1 t r (zst9 s.2.2.1 + 1)) : Nat) : Int))))]) (pc := 264) C dL_receives_264 (by decide) rfl ?_
                              refine z_iload (pc := 266) C dL_receives_266 12 rfl ?_
                              refine z_iload (pc := 268) C dL_receives_268 11 rfl ?_
                              refine z_iconst (pc := 270) C dL_receives_270 ?_
                              refine z_isub (pc := 271) C dL_receives_271 ?_
                              have hk3 := hzi.1
                              have hzr : z = 0 ∨ z = 1 := hz.elim (fun q => Or.inr q.1) (fun q => Or.inl q.1)
                              have hF0 := hF.1
                              have hwd : (zit s.1 s.2.2.1 t r).2.1 ≤ 255 := hzi.2.1
                              have hdl := zdl_b s.1 t r (zst9 s.2.2.1 + 1)
                              refine z_topi (y := (((zst9 s.2.2.1) : Nat) : Int)) (by omega) ?_
                              refine z_iload_n (pc := 272) C dL_receives_272 3 rfl ?_
                              refine z_imul (pc := 273) C dL_receives_273 ?_
                              refine z_iadd (pc := 274) C dL_receives_274 ?_
                              refine z_iconst (pc := 275) C dL_receives_275 ?_
                              refine z_iload_n (pc := 276) C dL_receives_276 3 rfl ?_
                              refine z_imul (pc := 277) C dL_receives_277 ?_
                              refine z_iconst (pc := 278) C dL_receives_278 ?_
                              refine z_idiv (pc := 279) C dL_receives_279 ⟨by omega, by omega⟩ (by decide) ?_
                              refine z_iadd (pc := 280) C dL_receives_280 ?_
                              refine z_topi (y := (((zlast s.2.2.1 t r) : Nat) : Int)) (rfl) ?_
                              refine z_istore (lv' := [(15, .int (iI ((((zlast s.2.2.1 t r) : Nat) : Int)))), (14, .int (iI ((zit s.1 s.2.2.1 t r).1))), (13, .int (iI (((((zac s.1 (s.2.2.1 4) t r (zst9 s.2.2.1)) / 2 ^ zst9 s.2.2.1 % 2) : Nat) : Int)))), (12, .int (iI (((((zac s.1 (s.2.2.1 4) t r (zst9 s.2.2.1)) / 2 % 256) : Nat) : Int)))), (0, .int (iI ((r : Int)))), (1, .int (iI ((rk : Int)))), (2, .ref aq), (3, .ref aw), (4, .ref al), (5, .ref af), (6, .ref ag), (7, .int (iI z)), (8, .int (iI ((((zst9 s.2.2.1 + 1) : Nat) : Int)))), (9, .int (iI ((t : Int)))), (10, .int (iI ((((ztl s.1 (s.2.2.1 4) t r (zst9 s.2.2.1 + 1)) : Nat) : Int)))), (11, .int (iI ((((zdl s.1 t r (zst9 s.2.2.1 + 1)) : Nat) : Int))))]) (pc := 281) C dL_receives_281 (by decide) rfl ?_
                              have J321 : ∀ (g2 : Nat → Int), zGr g2 (L ++ [(zit s.1 s.2.2.1 t r)]) rk → Z l X G Y 16 0 0 321 [(15, .int (iI ((((zlast s.2.2.1 t r) : Nat) : Int)))), (14, .int (iI ((zit s.1 s.2.2.1 t r).1))), (13, .int (iI (((((zac s.1 (s.2.2.1 4) t r (zst9 s.2.2.1)) / 2 ^ zst9 s.2.2.1 % 2) : Nat) : Int)))), (12, .int (iI (((((zac s.1 (s.2.2.1 4) t r (zst9 s.2.2.1)) / 2 % 256) : Nat) : Int)))), (0, .int (iI ((r : Int)))), (1, .int (iI ((rk : Int)))), (2, .ref aq), (3, .ref aw), (4, .ref al), (5, .ref af), (6, .ref ag), (7, .int (iI z)), (8, .int (iI ((((zst9 s.2.2.1 + 1) : Nat) : Int)))), (9, .int (iI ((t : Int)))), (10, .int (iI ((((ztl s.1 (s.2.2.1 4) t r (zst9 s.2.2.1 + 1)) : Nat) : Int)))), (11, .int (iI ((((zdl s.1 t r (zst9 s.2.2.1 + 1)) : Nat) : Int))))] [] [cI G aq 7 q, cI G aw 40 w, cI G al 51 (zlr c), cI G af 7 f1, cI G ag 5 g2] := by
                                intro g2 hG2
                                have J358 : ∀ (z2 : Int), zpb2 z2 (L ++ [(zit s.1 s.2.2.1 t r)]) s.2.1 s.2.2.2.2 → Z l X G Y 16 0 0 358 [(15, .int (iI ((((zlast s.2.2.1 t r) : Nat) : Int)))), (14, .int (iI ((zit s.1 s.2.2.1 t r).1))), (13, .int (iI (((((zac s.1 (s.2.2.1 4) t r (zst9 s.2.2.1)) / 2 ^ zst9 s.2.2.1 % 2) : Nat) : Int)))), (12, .int (iI (((((zac s.1 (s.2.2.1 4) t r (zst9 s.2.2.1)) / 2 % 256) : Nat) : Int)))), (0, .int (iI ((r : Int)))), (1, .int (iI ((rk : Int)))), (2, .ref aq), (3, .ref aw), (4, .ref al), (5, .ref af), (6, .ref ag), (7, .int (iI z)), (8, .int (iI ((((zst9 s.2.2.1 + 1) : Nat) : Int)))), (9, .int (iI ((t : Int)))), (10, .int (iI ((((ztl s.1 (s.2.2.1 4) t r (zst9 s.2.2.1 + 1)) : Nat) : Int)))), (11, .int (iI ((((zdl s.1 t r (zst9 s.2.2.1 + 1)) : Nat) : Int))))] [.int (iI z2)] [cI G aq 7 q, cI G aw 40 w, cI G al 51 (zlr c), cI G af 7 f1, cI G ag 5 g2] := by
                                  intro z2 hz2
                                  refine z_istore (lv' := [(7, .int (iI z2)), (15, .int (iI ((((zlast s.2.2.1 t r) : Nat) : Int)))), (14, .int (iI ((zit s.1 s.2.2.1 t r).1))), (13, .int (iI (((((zac s.1 (s.2.2.1 4) t r (zst9 s.2.2.1)) / 2 ^ zst9 s.2.2.1 % 2) : Nat) : Int)))), (12, .int (iI (((((zac s.1 (s.2.2.1 4) t r (zst9 s.2.2.1)) / 2 % 256) : Nat) : Int)))), (0, .int (iI ((r : Int)))), (1, .int (iI ((rk : Int)))), (2, .ref aq), (3, .ref aw), (4, .ref al), (5, .ref af), (6, .ref ag), (8, .int (iI ((((zst9 s.2.2.1 + 1) : Nat) : Int)))), (9, .int (iI ((t : Int)))), (10, .int (iI ((((ztl s.1 (s.2.2.1 4) t r (zst9 s.2.2.1 + 1)) : Nat) : Int)))), (11, .int (iI ((((zdl s.1 t r (zst9 s.2.2.1 + 1)) : Nat) : Int))))]) (pc := 358) C dL_receives_358 (by decide) rfl ?_
                                  refine z_aload (pc := 360) C dL_receives_360 10 rfl ?_
                                  refine z_iconst (pc := 362) C dL_receives_362 ?_
                                  refine z_dup2 (pc := 363) C dL_receives_363 rfl rfl ?_
                                  refine z_iald (pc := 364) C dL_receives_364 3 rfl (0) (rfl) (by omega) (by decide) ?_
                                  refine z_iconst (pc := 365) C dL_receives_365 ?_
                                  refine z_iadd (pc := 366) C dL_receives_366 ?_
                                  refine z_iast (ws' := [cI G aq 7 q, cI G aw 40 w, cI G al 51 (zlr c), cI G af 7 (zU f1 0 ((f1 0) + 1)), cI G ag 5 g2]) (pc := 367) C dL_receives_367 3 rfl (0) (rfl) (by omega) (by decide) rfl ?_
                                  refine z_aload (pc := 368) C dL_receives_368 10 rfl ?_
                                  refine z_iconst (pc := 370) C dL_receives_370 ?_
                                  refine z_iload (pc := 371) C dL_receives_371 2 rfl ?_
                                  refine z_iadd (pc := 373) C dL_receives_373 ?_
                                  refine z_dup2 (pc := 374) C dL_receives_374 rfl rfl ?_
                                  refine z_iald (pc := 375) C dL_receives_375 3 rfl ((1 + (zit s.1 s.2.2.1 t r).1.toNat)) (by omega) (by omega) (by decide) ?_
                                  refine z_iconst (pc := 376) C dL_receives_376 ?_
                                  refine z_iadd (pc := 377) C dL_receives_377 ?_
                                  refine z_iast (ws' := [cI G aq 7 q, cI G aw 40 w, cI G al 51 (zlr c), cI G af 7 (zU (zU f1 0 ((f1 0) + 1)) (1 + (zit s.1 s.2.2.1 t r).1.toNat) (((zU f1 0 ((f1 0) + 1)) (1 + (zit s.1 s.2.2.1 t r).1.toNat)) + 1)), cI G ag 5 g2]) (pc := 378) C dL_receives_378 3 rfl ((1 + (zit s.1 s.2.2.1 t r).1.toNat)) (by omega) (by omega) (by decide) rfl ?_
                                  refine z_aload (pc := 379) C dL_receives_379 10 rfl ?_
                                  refine z_bipush (pc := 381) C dL_receives_381 (by decide +kernel) ?_
                                  refine z_dup2 (pc := 383) C dL_receives_383 rfl rfl ?_
                                  refine z_iald (pc := 384) C dL_receives_384 3 rfl (6) (rfl) (by omega) (by decide) ?_
                                  refine z_iload (pc := 385) C dL_receives_385 15 rfl ?_
                                  refine z_iadd (pc := 387) C dL_receives_387 ?_
                                  refine z_iast (ws' := [cI G aq 7 q, cI G aw 40 w, cI G al 51 (zlr c), cI G af 7 (zU (zU (zU f1 0 ((f1 0) + 1)) (1 + (zit s.1 s.2.2.1 t r).1.toNat) (((zU f1 0 ((f1 0) + 1)) (1 + (zit s.1 s.2.2.1 t r).1.toNat)) + 1)) 6 (((zU (zU f1 0 ((f1 0) + 1)) (1 + (zit s.1 s.2.2.1 t r).1.toNat) (((zU f1 0 ((f1 0) + 1)) (1 + (zit s.1 s.2.2.1 t r).1.toNat)) + 1)) 6) + (((zdl s.1 t r (zst9 s.2.2.1 + 1)) : Nat) : Int))), cI G ag 5 g2]) (pc := 388) C dL_receives_388 3 rfl (6) (rfl) (by omega) (by decide) rfl ?_
                                  obtain ⟨f2, hf2⟩ : ∃ f2 : Nat → Int, (zU (zU (zU f1 0 (f1 0 + 1)) (1 + (zit s.1 s.2.2.1 t r).1.toNat) ((zU f1 0 (f1 0 + 1)) (1 + (zit s.1 s.2.2.1 t r).1.toNat) + 1)) 6 ((zU (zU f1 0 (f1 0 + 1)) (1 + (zit s.1 s.2.2.1 t r).1.toNat) ((zU f1 0 (f1 0 + 1)) (1 + (zit s.1 s.2.2.1 t r).1.toNat) + 1)) 6 + ((zdl s.1 t r (zst9 s.2.2.1 + 1) : Nat) : Int))) = f2 := ⟨_, rfl⟩
                                  have hF2 : zFr f2 (L ++ [(zit s.1 s.2.2.1 t r)]) fs := by
                                    refine zFr_add hF ?_ (fun j hj1 hj4 => ?_) ?_ ?_
                                    · rw [← hf2, zU_n (by decide), zU_n (by omega), zU_s]
                                    · rw [← hf2, zU_n (by omega)]
                                      by_cases hjk : j = 1 + (zit s.1 s.2.2.1 t r).1.toNat
                                      · subst hjk
                                        rw [zU_s, zU_n (by omega), if_pos (by omega)]
                                      · rw [zU_n hjk, zU_n (by omega), if_neg (by omega)]
                                        omega
                                    · rw [← hf2, zU_n (by decide), zU_n (by omega), zU_n (by decide)]
                                    · rw [← hf2, zU_s, zU_n (by omega), zU_n (by decide)]
                                      rfl
                                  refine z_iload (pc := 389) C dL_receives_389 1 rfl ?_
                                  refine z_ws (ws' := [cI G aq 7 q, cI G aw 40 w, cI G al 51 (zlr c), cI G af 7 f2, cI G ag 5 g2]) [0, 1, 2, 3, 4] (by rw [← hf2]; rfl) (by decide) ?_
                                  refine z_iconst (pc := 391) C dL_receives_391 ?_
                                  refine z_iadd (pc := 392) C dL_receives_392 ?_
                                  refine z_istore (lv' := [(9, .int (iI (((((zlast s.2.2.1 t r) : Nat) : Int) + 1)))), (7, .int (iI z2)), (15, .int (iI ((((zlast s.2.2.1 t r) : Nat) : Int)))), (14, .int (iI ((zit s.1 s.2.2.1 t r).1))), (13, .int (iI (((((zac s.1 (s.2.2.1 4) t r (zst9 s.2.2.1)) / 2 ^ zst9 s.2.2.1 % 2) : Nat) : Int)))), (12, .int (iI (((((zac s.1 (s.2.2.1 4) t r (zst9 s.2.2.1)) / 2 % 256) : Nat) : Int)))), (0, .int (iI ((r : Int)))), (1, .int (iI ((rk : Int)))), (2, .ref aq), (3, .ref aw), (4, .ref al), (5, .ref af), (6, .ref ag), (8, .int (iI ((((zst9 s.2.2.1 + 1) : Nat) : Int)))), (10, .int (iI ((((ztl s.1 (s.2.2.1 4) t r (zst9 s.2.2.1 + 1)) : Nat) : Int)))), (11, .int (iI ((((zdl s.1 t r (zst9 s.2.2.1 + 1)) : Nat) : Int))))]) (pc := 393) C dL_receives_393 (by decide) rfl ?_
                                  have L395 : ∀ (m : Nat) (j : Nat), 3001 < j + m → zlast s.2.2.1 t r + 1 ≤ j → j ≤ 2500 → (∀ i, zlast s.2.2.1 t r + 1 ≤ i → i < j → s.1 i = false) → (j = zlast s.2.2.1 t r + 1 ∨ (zit s.1 s.2.2.1 t r).1 = 3) → Z l X G Y 16 0 0 395 [(0, .int (iI ((r : Int)))), (1, .int (iI ((rk : Int)))), (2, .ref aq), (3, .ref aw), (4, .ref al), (5, .ref af), (6, .ref ag), (7, .int (iI z2)), (8, .int (iI ((((zst9 s.2.2.1 + 1) : Nat) : Int)))), (9, .int (iI ((j : Int)))), (14, .int (iI ((zit s.1 s.2.2.1 t r).1)))] [] [cI G aq 7 q, cI G aw 40 w, cI G al 51 (zlr c), cI G af 7 f2, cI G ag 5 g2] := by
                                    intro m
                                    induction m with
                                    | zero => intro j hn hj1 hj2 hjl hkj; exact absurd hn (by omega)
                                    | succ m ih =>
                                      intro j hn hj1 hj2 hjl hkj
                                      refine z_iload (pc := 395) C dL_receives_395 10 rfl ?_
                                      refine z_iconst (pc := 397) C dL_receives_397 ?_
                                      refine z_icmp_ne (tgt := 418) (pc := 398) C dL_receives_398 (by decide) ⟨by omega, by omega⟩ (by decide) (fun c398 => ?_) (fun c398 => ?_)
                                      · have hjz : znf s.1 s.2.2.2.1 j = znf s.1 s.2.2.2.1 (zgo s.1 s.2.2.1 t r) := by rw [show zgo s.1 s.2.2.1 t r = j from (if_neg c398).trans (hkj.resolve_right c398).symm]
                                        refine z_goto (tgt := 43) (pc := 418) C dL_receives_418 (by decide) ?_
                                        refine z_lv (lv' := [(0, .int (iI ((r : Int)))), (1, .int (iI ((rk : Int)))), (2, .ref aq), (3, .ref aw), (4, .ref al), (5, .ref af), (6, .ref ag), (7, .int (iI z2)), (8, .int (iI ((((zst9 s.2.2.1 + 1) : Nat) : Int)))), (9, .int (iI ((j : Int))))]) [0, 1, 2, 3, 4, 5, 6, 7, 8, 9] rfl ?_
                                        exact ihM j fs (L ++ [(zit s.1 s.2.2.1 t r)]) f2 g2 z2 (by omega) (by rw [List.length_append]; show 39 * (L.length + 1) ≤ j; omega) (by omega) (by omega) hF2 hG2 hz2 (by rw [zrc_znf hjz, List.append_assoc]; exact hA2.1) (by rw [zrc_znf hjz]; exact hA2.2)
                                      · refine z_iload (pc := 401) C dL_receives_401 9 rfl ?_
                                        refine z_aload_n (pc := 403) C dL_receives_403 2 rfl ?_
                                        refine z_aload (pc := 404) C dL_receives_404 4 rfl ?_
                                        refine z_callS (As := [.int (iI ((j : Int))), .ref aq, .ref al]) (rest := []) (wc := [cI G aq 7 q, cI G al 51 (zlr c)]) (wr := [cI G aw 40 w, cI G af 7 f2, cI G ag 5 g2]) (pc := 406) C dL_receives_406 (k_L_level l G aq al q c (j : Int) s ⟨by omega, by omega⟩ hS) gL_receives_L_level ⟨⟨_, rfl⟩, ⟨rfl, rfl⟩, nyL_level, ⟨Nat.le_of_ble_eq_true rfl, Nat.le_of_ble_eq_true rfl⟩⟩ (fun h => h) rfl (Nat.le_of_ble_eq_true rfl) [0, 2] [1, 3, 4] rfl rfl (by decide) (by decide) (by decide) ⟨Nat.le_of_ble_eq_true rfl, Nat.le_of_ble_eq_true rfl⟩ (fun v w hk => ?_)
                                        obtain ⟨rfl, rfl⟩ := hk
                                        refine z_fix (pc2 := 409) (st2 := [.int (iI ((zlv s.1 (j : Int))))]) (ws' := [cI G aq 7 q, cI G aw 40 w, cI G al 51 (zlr c), cI G af 7 f2, cI G ag 5 g2]) [3, 0, 4, 1, 2] rfl rfl rfl (by decide) ?_
                                        have hlvb := zlv_b s.1 (j : Int)
                                        refine z_if_ne (tgt := 418) (pc := 409) C dL_receives_409 (by decide) ⟨by omega, by omega⟩ (fun c409 => ?_) (fun c409 => ?_)
                                        · have hjz : znf s.1 s.2.2.2.1 j = znf s.1 s.2.2.2.1 (zgo s.1 s.2.2.1 t r) := by rw [znf_brk hbb hj1 hjl (zlv_1 c409)]; exact congrArg (znf s.1 _) (show zlast s.2.2.1 t r + 1 + 1 = zgo s.1 s.2.2.1 t r from (if_pos (show (zit s.1 s.2.2.1 t r).1 = 3 by omega)).symm)
                                          refine z_goto (tgt := 43) (pc := 418) C dL_receives_418 (by decide) ?_
                                          refine z_lv (lv' := [(0, .int (iI ((r : Int)))), (1, .int (iI ((rk : Int)))), (2, .ref aq), (3, .ref aw), (4, .ref al), (5, .ref af), (6, .ref ag), (7, .int (iI z2)), (8, .int (iI ((((zst9 s.2.2.1 + 1) : Nat) : Int)))), (9, .int (iI ((j : Int))))]) [0, 1, 2, 3, 4, 5, 6, 7, 8, 9] rfl ?_
                                          exact ihM j fs (L ++ [(zit s.1 s.2.2.1 t r)]) f2 g2 z2 (by omega) (by rw [List.length_append]; show 39 * (L.length + 1) ≤ j; omega) (by omega) (by omega) hF2 hG2 hz2 (by rw [zrc_znf hjz, List.append_assoc]; exact hA2.1) (by rw [zrc_znf hjz]; exact hA2.2)
                                        · refine z_iinc (lv' := [(9, .int (iI (((j : Int) + 1)))), (0, .int (iI ((r : Int)))), (1, .int (iI ((rk : Int)))), (2, .ref aq), (3, .ref aw), (4, .ref al), (5, .ref af), (6, .ref ag), (7, .int (iI z2)), (8, .int (iI ((((zst9 s.2.2.1 + 1) : Nat) : Int)))), (14, .int (iI ((zit s.1 s.2.2.1 t r).1)))]) (pc := 412) C dL_receives_412 9 rfl (by decide) rfl ?_
                                          refine z_goto (tgt := 395) (pc := 415) C dL_receives_415 (by decide) ?_
                                          refine z_lv (lv' := [(0, .int (iI ((r : Int)))), (1, .int (iI ((rk : Int)))), (2, .ref aq), (3, .ref aw), (4, .ref al), (5, .ref af), (6, .ref ag), (7, .int (iI z2)), (8, .int (iI ((((zst9 s.2.2.1 + 1) : Nat) : Int)))), (9, .int (iI (((j : Int) + 1)))), (14, .int (iI ((zit s.1 s.2.2.1 t r).1)))]) [1, 2, 3, 4, 5, 6, 7, 8, 9, 0, 10] rfl ?_
                                          have hj0 := zlv_0 c409
                                          have hje : j < s.2.2.2.1 := by
                                            apply Nat.lt_of_not_le
                                            intro y
                                            rw [hbb j y] at hj0
                                            exact Bool.noConfusion hj0
                                          exact ih (j + 1) (by omega) (by omega) (by omega) (fun i h1 h2 => by
                                            by_cases hij : i = j
                                            · rw [hij]
                                              exact hj0
                                            · exact hjl i h1 (by omega)) (Or.inr (by omega))
                                  refine z_lv (lv' := [(0, .int (iI ((r : Int)))), (1, .int (iI ((rk : Int)))), (2, .ref aq), (3, .ref aw), (4, .ref al), (5, .ref af), (6, .ref ag), (7, .int (iI z2)), (8, .int (iI ((((zst9 s.2.2.1 + 1) : Nat) : Int)))), (9, .int (iI (((((zlast s.2.2.1 t r) : Nat) : Int) + 1)))), (14, .int (iI ((zit s.1 s.2.2.1 t r).1)))]) [6, 7, 8, 9, 10, 11, 12, 1, 13, 0, 3] rfl ?_
                                  exact L395 3002 (zlast s.2.2.1 t r + 1) (by omega) (Nat.le_refl _) (by omega) (fun i h1 h2 => absurd h2 (by omega)) (Or.inl rfl)
                                refine z_iload (pc := 321) C dL_receives_321 11 rfl ?_
                                refine z_if_eq (tgt := 357) (pc := 323) C dL_receives_323 (by decide) ⟨by omega, by omega⟩ (fun c323 => ?_) (fun c323 => ?_)
                                · refine z_iconst (pc := 357) C dL_receives_357 ?_
                                  exact J358 0 (Or.inr ⟨rfl, fun q => (hz.resolve_left (fun y => absurd y.1 (by omega))).2 (zpw_n q).1⟩)
                                · refine z_iload (pc := 326) C dL_receives_326 1 rfl ?_
                                  refine z_if_ne (tgt := 357) (pc := 328) C dL_receives_328 (by decide) ⟨by omega, by omega⟩ (fun c328 => ?_) (fun c328 => ?_)
                                  · refine z_iconst (pc := 357) C dL_receives_357 ?_
                                    exact J358 0 (Or.inr ⟨rfl, fun q => c328 (zpw_n q).2.2.1⟩)
                                  · refine z_aload (pc := 331) C dL_receives_331 9 rfl ?_
                                    refine z_iconst (pc := 333) C dL_receives_333 ?_
                                    refine z_iald (pc := 334) C dL_receives_334 3 rfl (0) (rfl) (by omega) (by decide) ?_
                                    refine z_aload_n (pc := 335) C dL_receives_335 6 rfl ?_
                                    refine z_bipush (pc := 336) C dL_receives_336 (by decide +kernel) ?_
                                    refine z_iald (pc := 338) C dL_receives_338 0 rfl (6) (rfl) (by omega) (by decide) ?_
                                    refine z_icmp_ge (tgt := 357) (pc := 339) C dL_receives_339 (by decide) ⟨by omega, by omega⟩ ⟨by omega, by omega⟩ (fun c339 => ?_) (fun c339 => ?_)
                                    · refine z_iconst (pc := 357) C dL_receives_357 ?_
                                      exact J358 0 (Or.inr ⟨rfl, fun q => by have h9 := (zpw_n q).2.1; omega⟩)
                                    · have hwL := hW L.length (by omega)
                                      have hwb := hwb9 L.length (by omega)
                                      refine z_aload_n (pc := 342) C dL_receives_342 7 rfl ?_
                                      refine z_aload (pc := 343) C dL_receives_343 9 rfl ?_
                                      refine z_iconst (pc := 345) C dL_receives_345 ?_
                                      refine z_iald (pc := 346) C dL_receives_346 3 rfl (0) (rfl) (by omega) (by decide) ?_
                                      refine z_iald (pc := 347) C dL_receives_347 1 rfl (L.length) (hF0) (by omega) (by decide) ?_
                                      refine z_iload (pc := 348) C dL_receives_348 3 rfl ?_
                                      refine z_icmp_ne (tgt := 357) (pc := 350) C dL_receives_350 (by decide) ⟨by omega, by omega⟩ ⟨by omega, by omega⟩ (fun c350 => ?_) (fun c350 => ?_)
                                      · refine z_iconst (pc := 357) C dL_receives_357 ?_
                                        exact J358 0 (Or.inr ⟨rfl, fun q => c350 (by rw [hwL]; exact (zpw_n q).2.2.2.symm)⟩)
                                      · refine z_iconst (pc := 353) C dL_receives_353 ?_
                                        refine z_goto (tgt := 358) (pc := 354) C dL_receives_354 (by decide) ?_
                                        exact J358 1 (Or.inl ⟨rfl, zpw_y (hz.resolve_right (fun y => absurd y.1 (by omega))).2 (by omega) c328 (by rw [← hwL]; exact c350.symm)⟩)
                              refine z_aload (pc := 283) C dL_receives_283 9 rfl ?_
                              refine z_iconst (pc := 285) C dL_receives_285 ?_
                              refine z_iald (pc := 286) C dL_receives_286 3 rfl (0) (rfl) (by omega) (by decide) ?_
                              refine z_iload_n (pc := 287) C dL_receives_287 5 rfl ?_
                              refine z_icmp_ne (tgt := 321) (pc := 288) C dL_receives_288 (by decide) ⟨by omega, by omega⟩ ⟨by omega, by omega⟩ (fun c288 => ?_) (fun c288 => ?_)
                              · exact J321 g1 (zGr_no hG (by omega))
                              · refine z_aload (pc := 291) C dL_receives_291 10 rfl ?_
                                refine z_iconst (pc := 293) C dL_receives_293 ?_
                                refine z_iload (pc := 294) C dL_receives_294 1 rfl ?_
                                refine z_iast (ws' := [cI G aq 7 q, cI G aw 40 w, cI G al 51 (zlr c), cI G af 7 f1, cI G ag 5 (zU g1 0 ((zit s.1 s.2.2.1 t r).1))]) (pc := 296) C dL_receives_296 4 rfl (0) (rfl) (by omega) (by decide) rfl ?_
                                refine z_aload (pc := 297) C dL_receives_297 10 rfl ?_
                                refine z_iconst (pc := 299) C dL_receives_299 ?_
                                refine z_iload (pc := 300) C dL_receives_300 3 rfl ?_
                                refine z_iast (ws' := [cI G aq 7 q, cI G aw 40 w, cI G al 51 (zlr c), cI G af 7 f1, cI G ag 5 (zU (zU g1 0 ((zit s.1 s.2.2.1 t r).1)) 1 ((((zac s.1 (s.2.2.1 4) t r (zst9 s.2.2.1)) / 2 % 256) : Nat) : Int))]) (pc := 302) C dL_receives_302 4 rfl (1) (rfl) (by omega) (by decide) rfl ?_
                                refine z_aload (pc := 303) C dL_receives_303 10 rfl ?_
                                refine z_iconst (pc := 305) C dL_receives_305 ?_
                                refine z_iload (pc := 306) C dL_receives_306 13 rfl ?_
                                refine z_iast (ws' := [cI G aq 7 q, cI G aw 40 w, cI G al 51 (zlr c), cI G af 7 f1, cI G ag 5 (zU (zU (zU g1 0 ((zit s.1 s.2.2.1 t r).1)) 1 ((((zac s.1 (s.2.2.1 4) t r (zst9 s.2.2.1)) / 2 % 256) : Nat) : Int)) 2 (t : Int))]) (pc := 308) C dL_receives_308 4 rfl (2) (rfl) (by omega) (by decide) rfl ?_
                                refine z_aload (pc := 309) C dL_receives_309 10 rfl ?_
                                refine z_iconst (pc := 311) C dL_receives_311 ?_
                                refine z_iload (pc := 312) C dL_receives_312 15 rfl ?_
                                refine z_iast (ws' := [cI G aq 7 q, cI G aw 40 w, cI G al 51 (zlr c), cI G af 7 f1, cI G ag 5 (zU (zU (zU (zU g1 0 ((zit s.1 s.2.2.1 t r).1)) 1 ((((zac s.1 (s.2.2.1 4) t r (zst9 s.2.2.1)) / 2 % 256) : Nat) : Int)) 2 (t : Int)) 3 (((zdl s.1 t r (zst9 s.2.2.1 + 1)) : Nat) : Int))]) (pc := 314) C dL_receives_314 4 rfl (3) (rfl) (by omega) (by decide) rfl ?_
                                refine z_aload (pc := 315) C dL_receives_315 10 rfl ?_
                                refine z_iconst (pc := 317) C dL_receives_317 ?_
                                refine z_iload (pc := 318) C dL_receives_318 0 rfl ?_
                                refine z_iast (ws' := [cI G aq 7 q, cI G aw 40 w, cI G al 51 (zlr c), cI G af 7 f1, cI G ag 5 (zU (zU (zU (zU (zU g1 0 ((zit s.1 s.2.2.1 t r).1)) 1 ((((zac s.1 (s.2.2.1 4) t r (zst9 s.2.2.1)) / 2 % 256) : Nat) : Int)) 2 (t : Int)) 3 (((zdl s.1 t r (zst9 s.2.2.1 + 1)) : Nat) : Int)) 4 (((zlast s.2.2.1 t r) : Nat) : Int))]) (pc := 320) C dL_receives_320 4 rfl (4) (rfl) (by omega) (by decide) rfl ?_
                                exact J321 _ (zGr_yes (by omega) (fun w hw => by
                                  rcases (show w = 0 ∨ w = 1 ∨ w = 2 ∨ w = 3 ∨ w = 4 by omega) with q | q | q | q | q <;> (subst q; rfl)))
                            obtain ⟨sb, hsb⟩ : ∃ n : Nat, (zac s.1 (s.2.2.1 4) t r (zst9 s.2.2.1)) / 2 ^ zst9 s.2.2.1 % 2 = n := ⟨_, rfl⟩
                            have hsb2 : sb ≤ 1 := by omega
                            refine z_iload (pc := 219) C dL_receives_219 12 rfl ?_
                            refine z_topi (y := (((zac s.1 (s.2.2.1 4) t r (zst9 s.2.2.1)) : Nat) : Int)) (rfl) ?_
                            refine z_if_ne (tgt := 228) (pc := 221) C dL_receives_221 (by decide) ⟨by omega, by omega⟩ (fun c221 => ?_) (fun c221 => ?_)
                            · refine z_iload (pc := 228) C dL_receives_228 0 rfl ?_
                              refine z_topi (y := (sb : Int)) (by rw [hsb]) ?_
                              refine z_if_ne (tgt := 237) (pc := 230) C dL_receives_230 (by decide) ⟨by omega, by omega⟩ (fun c230 => ?_) (fun c230 => ?_)
                              · refine z_aload_n (pc := 237) C dL_receives_237 4 rfl ?_
                                refine z_iconst (pc := 238) C dL_receives_238 ?_
                                refine z_iald (pc := 239) C dL_receives_239 0 rfl (2) (rfl) (by omega) (by decide) ?_
                                refine z_if_le (tgt := 263) (pc := 240) C dL_receives_240 (by decide) ⟨by omega, by omega⟩ (fun c240 => ?_) (fun c240 => ?_)
                                · refine z_iconst (pc := 263) C dL_receives_263 ?_
                                  refine z_topi (y := (zit s.1 s.2.2.1 t r).1) (by show (0 : Int) = zko (zac s.1 (s.2.2.1 4) t r (zst9 s.2.2.1)) (zst9 s.2.2.1) (s.2.2.1 2); unfold zko; rw [if_neg (by omega), if_neg (by omega), if_neg (fun y => y.1 (by omega))]) ?_
                                  exact J264
                                · refine z_iload (pc := 243) C dL_receives_243 12 rfl ?_
                                  refine z_topi (y := (((zac s.1 (s.2.2.1 4) t r (zst9 s.2.2.1)) : Nat) : Int)) (rfl) ?_
                                  refine z_bipush (pc := 245) C dL_receives_245 (by decide +kernel) ?_
                                  refine z_ishr (pc := 247) C dL_receives_247 ⟨by omega, by omega⟩ ⟨by omega, by omega⟩ ?_
                                  refine z_topi (y := ((((zac s.1 (s.2.2.1 4) t r (zst9 s.2.2.1)) / 2 ^ 9) : Nat) : Int)) (zdiv_pow _ 9) ?_
                                  refine z_iconst (pc := 248) C dL_receives_248 ?_
                                  have hdr : (zac s.1 (s.2.2.1 4) t r (zst9 s.2.2.1)) / 2 ^ 9 ≤ (zac s.1 (s.2.2.1 4) t r (zst9 s.2.2.1)) := Nat.div_le_self _ _
                                  refine z_iand (pc := 249) C dL_receives_249 ⟨Int.natCast_nonneg _, Int.le_trans (Int.ofNat_le.mpr hdr) (by omega)⟩ (by decide) ?_
                                  refine z_topi (y := ((((zac s.1 (s.2.2.1 4) t r (zst9 s.2.2.1)) / 2 ^ 9 % 2) : Nat) : Int)) (by rw [zand1 (Int.natCast_nonneg _)]; exact (Int.natCast_emod _ _).symm) ?_
                                  refine z_iload (pc := 250) C dL_receives_250 1 rfl ?_
                                  refine z_aload_n (pc := 252) C dL_receives_252 4 rfl ?_
                                  refine z_callS (As := [.int (iI (((((zac s.1 (s.2.2.1 4) t r (zst9 s.2.2.1)) / 2 % 256) : Nat) : Int))), .ref aq]) (rest := [.int (iI (((((zac s.1 (s.2.2.1 4) t r (zst9 s.2.2.1)) / 2 ^ 9 % 2) : Nat) : Int)))]) (wc := [cI G aq 7 q]) (wr := [cI G aw 40 w, cI G al 51 (zlr c), cI G af 7 f1, cI G ag 5 g1]) (pc := 253) C dL_receives_253 (k_L_parity l G aq q ((zac s.1 (s.2.2.1 4) t r (zst9 s.2.2.1)) / 2 % 256) (by omega) ⟨by omega, by omega⟩) gL_receives_L_parity ⟨⟨_, rfl⟩, ⟨rfl, rfl⟩, nyL_parity, ⟨Nat.le_of_ble_eq_true rfl, Nat.le_of_ble_eq_true rfl⟩⟩ (fun h => h) rfl (Nat.le_of_ble_eq_true rfl) [0] [1, 2, 3, 4] rfl rfl (by decide) (by decide) (by decide) ⟨Nat.le_of_ble_eq_true rfl, Nat.le_of_ble_eq_true rfl⟩ (fun v w hk => ?_)
                                  obtain ⟨rfl, rfl⟩ := hk
                                  refine z_fix (pc2 := 256) (st2 := [.int (iI ((zpar (q 2) ((zac s.1 (s.2.2.1 4) t r (zst9 s.2.2.1)) / 2 % 256)))), .int (iI (((((zac s.1 (s.2.2.1 4) t r (zst9 s.2.2.1)) / 2 ^ 9 % 2) : Nat) : Int)))]) (ws' := [cI G aq 7 q, cI G aw 40 w, cI G al 51 (zlr c), cI G af 7 f1, cI G ag 5 g1]) [4, 0, 1, 2, 3] rfl rfl rfl (by decide) ?_
                                  have hpb := zpar_b (q 2) ((zac s.1 (s.2.2.1 4) t r (zst9 s.2.2.1)) / 2 % 256)
                                  refine z_icmp_eq (tgt := 263) (pc := 256) C dL_receives_256 (by decide) ⟨by omega, by omega⟩ ⟨by omega, by omega⟩ (fun c256 => ?_) (fun c256 => ?_)
                                  · refine z_iconst (pc := 263) C dL_receives_263 ?_
                                    refine z_topi (y := (zit s.1 s.2.2.1 t r).1) (by show (0 : Int) = zko (zac s.1 (s.2.2.1 4) t r (zst9 s.2.2.1)) (zst9 s.2.2.1) (s.2.2.1 2); unfold zko; rw [if_neg (by omega), if_neg (by omega), if_neg (fun y => y.2 (by rw [← m2.2.2]; exact c256))]) ?_
                                    exact J264
                                  · refine z_iconst (pc := 259) C dL_receives_259 ?_
                                    refine z_goto (tgt := 264) (pc := 260) C dL_receives_260 (by decide) ?_
                                    refine z_topi (y := (zit s.1 s.2.2.1 t r).1) (by show (1 : Int) = zko (zac s.1 (s.2.2.1 4) t r (zst9 s.2.2.1)) (zst9 s.2.2.1) (s.2.2.1 2); unfold zko; rw [if_neg (by omega), if_neg (by omega), if_pos ⟨by omega, fun y => c256 (by rw [m2.2.2]; exact y)⟩]) ?_
                                    exact J264
                              · refine z_iconst (pc := 233) C dL_receives_233 ?_
                                refine z_goto (tgt := 264) (pc := 234) C dL_receives_234 (by decide) ?_
                                refine z_topi (y := (zit s.1 s.2.2.1 t r).1) (by show (2 : Int) = zko (zac s.1 (s.2.2.1 4) t r (zst9 s.2.2.1)) (zst9 s.2.2.1) (s.2.2.1 2); unfold zko; rw [if_neg (by omega), if_pos (by omega)]) ?_
                                exact J264
                            · refine z_iconst (pc := 224) C dL_receives_224 ?_
                              refine z_goto (tgt := 264) (pc := 225) C dL_receives_225 (by decide) ?_
                              refine z_topi (y := (zit s.1 s.2.2.1 t r).1) (by show (3 : Int) = zko (zac s.1 (s.2.2.1 4) t r (zst9 s.2.2.1)) (zst9 s.2.2.1) (s.2.2.1 2); unfold zko; rw [if_pos (by omega)]) ?_
                              exact J264
                          · have him : i * r ≤ 10 * 40 := Nat.mul_le_mul (by omega) hr.2
                            obtain ⟨hj1, hj2, hj3⟩ := zlk_b s.1 (s.2.2.1 4) (t + i * r) r
                            have hvi := zvo_b s.1 (s.2.2.1 4) (t + i * r) r
                            have htl := ztl_b s.1 (s.2.2.1 4) t r (n := i) (by omega)
                            have hdl := zdl_b s.1 t r i
                            refine z_iload (pc := 135) C dL_receives_135 9 rfl ?_
                            refine z_iload (pc := 137) C dL_receives_137 12 rfl ?_
                            refine z_iload_n (pc := 139) C dL_receives_139 0 rfl ?_
                            refine z_imul (pc := 140) C dL_receives_140 ?_
                            refine z_iadd (pc := 141) C dL_receives_141 ?_
                            refine z_iload_n (pc := 142) C dL_receives_142 0 rfl ?_
                            refine z_aload_n (pc := 143) C dL_receives_143 2 rfl ?_
                            refine z_aload (pc := 144) C dL_receives_144 4 rfl ?_
                            refine z_callS (As := [.int (iI (((t : Int) + ((i : Int) * (r : Int))))), .int (iI ((r : Int))), .ref aq, .ref al]) (rest := []) (wc := [cI G aq 7 q, cI G al 51 (zlr c)]) (wr := [cI G aw 40 w, cI G af 7 f1, cI G ag 5 g1]) (pc := 146) C dL_receives_146 (k_L_looks l G aq al q c (t + i * r) r s (by omega) hr hS) gL_receives_L_looks ⟨⟨_, rfl⟩, ⟨rfl, rfl⟩, nyL_looks, ⟨Nat.le_of_ble_eq_true rfl, Nat.le_of_ble_eq_true rfl⟩⟩ (fun h => h) rfl (Nat.le_of_ble_eq_true rfl) [0, 2] [1, 3, 4] rfl rfl (by decide) (by decide) (by decide) ⟨Nat.le_of_ble_eq_true rfl, Nat.le_of_ble_eq_true rfl⟩ (fun v w hk => ?_)
                            obtain ⟨rfl, rfl⟩ := hk
                            refine z_fix (pc2 := 149) (st2 := [.int (iI ((((zlk s.1 (s.2.2.1 4) (t + i * r) r) : Nat) : Int)))]) (ws' := [cI G aq 7 q, cI G aw 40 w, cI G al 51 (zlr c), cI G af 7 f1, cI G ag 5 g1]) [3, 0, 4, 1, 2] rfl rfl rfl (by decide) ?_
                            refine z_istore (lv' := [(13, .int (iI ((((zlk s.1 (s.2.2.1 4) (t + i * r) r) : Nat) : Int)))), (0, .int (iI ((r : Int)))), (1, .int (iI ((rk : Int)))), (2, .ref aq), (3, .ref aw), (4, .ref al), (5, .ref af), (6, .ref ag), (7, .int (iI z)), (8, .int (iI ((((zst9 s.2.2.1 + 1) : Nat) : Int)))), (9, .int (iI ((t : Int)))), (10, .int (iI ((((ztl s.1 (s.2.2.1 4) t r i) : Nat) : Int)))), (11, .int (iI ((((zdl s.1 t r i) : Nat) : Int)))), (12, .int (iI ((i : Int))))]) (pc := 149) C dL_receives_149 (by decide) rfl ?_
                            refine z_iload (pc := 151) C dL_receives_151 11 rfl ?_
                            refine z_iload (pc := 153) C dL_receives_153 0 rfl ?_
                            refine z_bipush (pc := 155) C dL_receives_155 (by decide +kernel) ?_
                            refine z_idiv (pc := 157) C dL_receives_157 ⟨by omega, by omega⟩ (by decide) ?_
                            refine z_topi (y := (((zvo s.1 (s.2.2.1 4) (t + i * r) r) : Nat) : Int)) (by omega) ?_
                            refine z_iload (pc := 158) C dL_receives_158 13 rfl ?_
                            refine z_ishl (pc := 160) C dL_receives_160 (by omega) ⟨by omega, by omega⟩ (by rw [Int.toNat_natCast]; exact Int.le_trans (zshb hvi (by omega)) (by decide)) ?_
                            refine z_topi (y := ((((zvo s.1 (s.2.2.1 4) (t + i * r) r) : Nat) : Int) * 2 ^ i)) (by rw [Int.toNat_natCast]) ?_
                            refine z_ior (pc := 161) C dL_receives_161 ⟨by omega, by omega⟩ ⟨zshb0, Int.le_trans (zshb hvi (by omega)) (by decide)⟩ ?_
                            refine z_topi (y := (((ztl s.1 (s.2.2.1 4) t r (i + 1)) : Nat) : Int)) (ztl_s hv i) ?_
                            refine z_istore (lv' := [(10, .int (iI ((((ztl s.1 (s.2.2.1 4) t r (i + 1)) : Nat) : Int)))), (13, .int (iI ((((zlk s.1 (s.2.2.1 4) (t + i * r) r) : Nat) : Int)))), (0, .int (iI ((r : Int)))), (1, .int (iI ((rk : Int)))), (2, .ref aq), (3, .ref aw), (4, .ref al), (5, .ref af), (6, .ref ag), (7, .int (iI z)), (8, .int (iI ((((zst9 s.2.2.1 + 1) : Nat) : Int)))), (9, .int (iI ((t : Int)))), (11, .int (iI ((((zdl s.1 t r i) : Nat) : Int)))), (12, .int (iI ((i : Int))))]) (pc := 162) C dL_receives_162 (by decide) rfl ?_
                            refine z_iload (pc := 164) C dL_receives_164 12 rfl ?_
                            refine z_iload (pc := 166) C dL_receives_166 1 rfl ?_
                            refine z_bipush (pc := 168) C dL_receives_168 (by decide +kernel) ?_
                            refine z_irem (pc := 170) C dL_receives_170 ⟨by omega, by omega⟩ (by decide) ?_
                            refine z_iconst (pc := 171) C dL_receives_171 ?_
                            refine z_icmp_eq (tgt := 184) (pc := 172) C dL_receives_172 (by decide) ⟨by omega, by omega⟩ (by decide) (fun c172 => ?_) (fun c172 => ?_)
                            · refine z_iconst (pc := 184) C dL_receives_184 ?_
                              refine z_goto (tgt := 189) (pc := 185) C dL_receives_185 (by decide) ?_
                              refine z_iadd (pc := 189) C dL_receives_189 ?_
                              refine z_topi (y := (((zdl s.1 t r (i + 1)) : Nat) : Int)) (by rw [← zdl_s, zdo_y (Or.inl (by omega))]; rfl) ?_
                              refine z_istore (lv' := [(11, .int (iI ((((zdl s.1 t r (i + 1)) : Nat) : Int)))), (10, .int (iI ((((ztl s.1 (s.2.2.1 4) t r (i + 1)) : Nat) : Int)))), (13, .int (iI ((((zlk s.1 (s.2.2.1 4) (t + i * r) r) : Nat) : Int)))), (0, .int (iI ((r : Int)))), (1, .int (iI ((rk : Int)))), (2, .ref aq), (3, .ref aw), (4, .ref al), (5, .ref af), (6, .ref ag), (7, .int (iI z)), (8, .int (iI ((((zst9 s.2.2.1 + 1) : Nat) : Int)))), (9, .int (iI ((t : Int)))), (12, .int (iI ((i : Int))))]) (pc := 190) C dL_receives_190 (by decide) rfl ?_
                              refine z_iinc (lv' := [(12, .int (iI (((i : Int) + 1)))), (11, .int (iI ((((zdl s.1 t r (i + 1)) : Nat) : Int)))), (10, .int (iI ((((ztl s.1 (s.2.2.1 4) t r (i + 1)) : Nat) : Int)))), (13, .int (iI ((((zlk s.1 (s.2.2.1 4) (t + i * r) r) : Nat) : Int)))), (0, .int (iI ((r : Int)))), (1, .int (iI ((rk : Int)))), (2, .ref aq), (3, .ref aw), (4, .ref al), (5, .ref af), (6, .ref ag), (7, .int (iI z)), (8, .int (iI ((((zst9 s.2.2.1 + 1) : Nat) : Int)))), (9, .int (iI ((t : Int))))]) (pc := 192) C dL_receives_192 13 rfl (by decide) rfl ?_
                              refine z_goto (tgt := 128) (pc := 195) C dL_receives_195 (by decide) ?_
                              refine z_lv (lv' := [(0, .int (iI ((r : Int)))), (1, .int (iI ((rk : Int)))), (2, .ref aq), (3, .ref aw), (4, .ref al), (5, .ref af), (6, .ref ag), (7, .int (iI z)), (8, .int (iI ((((zst9 s.2.2.1 + 1) : Nat) : Int)))), (9, .int (iI ((t : Int)))), (10, .int (iI ((((ztl s.1 (s.2.2.1 4) t r (i + 1)) : Nat) : Int)))), (11, .int (iI ((((zdl s.1 t r (i + 1)) : Nat) : Int)))), (12, .int (iI (((i : Int) + 1))))]) [4, 5, 6, 7, 8, 9, 10, 11, 12, 13, 2, 1, 0] rfl ?_
                              exact ih (i + 1) (by omega) (by omega)
                            · refine z_iload (pc := 175) C dL_receives_175 1 rfl ?_
                              refine z_bipush (pc := 177) C dL_receives_177 (by decide +kernel) ?_
                              refine z_irem (pc := 179) C dL_receives_179 ⟨by omega, by omega⟩ (by decide) ?_
                              refine z_iconst (pc := 180) C dL_receives_180 ?_
                              refine z_icmp_ne (tgt := 188) (pc := 181) C dL_receives_181 (by decide) ⟨by omega, by omega⟩ (by decide) (fun c181 => ?_) (fun c181 => ?_)
                              · refine z_iconst (pc := 188) C dL_receives_188 ?_
                                refine z_iadd (pc := 189) C dL_receives_189 ?_
                                refine z_topi (y := (((zdl s.1 t r (i + 1)) : Nat) : Int)) (by rw [← zdl_s, zdo_n (by omega) (by omega)]; rfl) ?_
                                refine z_istore (lv' := [(11, .int (iI ((((zdl s.1 t r (i + 1)) : Nat) : Int)))), (10, .int (iI ((((ztl s.1 (s.2.2.1 4) t r (i + 1)) : Nat) : Int)))), (13, .int (iI ((((zlk s.1 (s.2.2.1 4) (t + i * r) r) : Nat) : Int)))), (0, .int (iI ((r : Int)))), (1, .int (iI ((rk : Int)))), (2, .ref aq), (3, .ref aw), (4, .ref al), (5, .ref af), (6, .ref ag), (7, .int (iI z)), (8, .int (iI ((((zst9 s.2.2.1 + 1) : Nat) : Int)))), (9, .int (iI ((t : Int)))), (12, .int (iI ((i : Int))))]) (pc := 190) C dL_receives_190 (by decide) rfl ?_
                                refine z_iinc (lv' := [(12, .int (iI (((i : Int) + 1)))), (11, .int (iI ((((zdl s.1 t r (i + 1)) : Nat) : Int)))), (10, .int (iI ((((ztl s.1 (s.2.2.1 4) t r (i + 1)) : Nat) : Int)))), (13, .int (iI ((((zlk s.1 (s.2.2.1 4) (t + i * r) r) : Nat) : Int)))), (0, .int (iI ((r : Int)))), (1, .int (iI ((rk : Int)))), (2, .ref aq), (3, .ref aw), (4, .ref al), (5, .ref af), (6, .ref ag), (7, .int (iI z)), (8, .int (iI ((((zst9 s.2.2.1 + 1) : Nat) : Int)))), (9, .int (iI ((t : Int))))]) (pc := 192) C dL_receives_192 13 rfl (by decide) rfl ?_
                                refine z_goto (tgt := 128) (pc := 195) C dL_receives_195 (by decide) ?_
                                refine z_lv (lv' := [(0, .int (iI ((r : Int)))), (1, .int (iI ((rk : Int)))), (2, .ref aq), (3, .ref aw), (4, .ref al), (5, .ref af), (6, .ref ag), (7, .int (iI z)), (8, .int (iI ((((zst9 s.2.2.1 + 1) : Nat) : Int)))), (9, .int (iI ((t : Int)))), (10, .int (iI ((((ztl s.1 (s.2.2.1 4) t r (i + 1)) : Nat) : Int)))), (11, .int (iI ((((zdl s.1 t r (i + 1)) : Nat) : Int)))), (12, .int (iI (((i : Int) + 1))))]) [4, 5, 6, 7, 8, 9, 10, 11, 12, 13, 2, 1, 0] rfl ?_
                                exact ih (i + 1) (by omega) (by omega)
                              · refine z_iconst (pc := 184) C dL_receives_184 ?_
                                refine z_goto (tgt := 189) (pc := 185) C dL_receives_185 (by decide) ?_
                                refine z_iadd (pc := 189) C dL_receives_189 ?_
                                refine z_topi (y := (((zdl s.1 t r (i + 1)) : Nat) : Int)) (by rw [← zdl_s, zdo_y (Or.inr (by omega))]; rfl) ?_
                                refine z_istore (lv' := [(11, .int (iI ((((zdl s.1 t r (i + 1)) : Nat) : Int)))), (10, .int (iI ((((ztl s.1 (s.2.2.1 4) t r (i + 1)) : Nat) : Int)))), (13, .int (iI ((((zlk s.1 (s.2.2.1 4) (t + i * r) r) : Nat) : Int)))), (0, .int (iI ((r : Int)))), (1, .int (iI ((rk : Int)))), (2, .ref aq), (3, .ref aw), (4, .ref al), (5, .ref af), (6, .ref ag), (7, .int (iI z)), (8, .int (iI ((((zst9 s.2.2.1 + 1) : Nat) : Int)))), (9, .int (iI ((t : Int)))), (12, .int (iI ((i : Int))))]) (pc := 190) C dL_receives_190 (by decide) rfl ?_
                                refine z_iinc (lv' := [(12, .int (iI (((i : Int) + 1)))), (11, .int (iI ((((zdl s.1 t r (i + 1)) : Nat) : Int)))), (10, .int (iI ((((ztl s.1 (s.2.2.1 4) t r (i + 1)) : Nat) : Int)))), (13, .int (iI ((((zlk s.1 (s.2.2.1 4) (t + i * r) r) : Nat) : Int)))), (0, .int (iI ((r : Int)))), (1, .int (iI ((rk : Int)))), (2, .ref aq), (3, .ref aw), (4, .ref al), (5, .ref af), (6, .ref ag), (7, .int (iI z)), (8, .int (iI ((((zst9 s.2.2.1 + 1) : Nat) : Int)))), (9, .int (iI ((t : Int))))]) (pc := 192) C dL_receives_192 13 rfl (by decide) rfl ?_
                                refine z_goto (tgt := 128) (pc := 195) C dL_receives_195 (by decide) ?_
                                refine z_lv (lv' := [(0, .int (iI ((r : Int)))), (1, .int (iI ((rk : Int)))), (2, .ref aq), (3, .ref aw), (4, .ref al), (5, .ref af), (6, .ref ag), (7, .int (iI z)), (8, .int (iI ((((zst9 s.2.2.1 + 1) : Nat) : Int)))), (9, .int (iI ((t : Int)))), (10, .int (iI ((((ztl s.1 (s.2.2.1 4) t r (i + 1)) : Nat) : Int)))), (11, .int (iI ((((zdl s.1 t r (i + 1)) : Nat) : Int)))), (12, .int (iI (((i : Int) + 1))))]) [4, 5, 6, 7, 8, 9, 10, 11, 12, 13, 2, 1, 0] rfl ?_
                                exact ih (i + 1) (by omega) (by omega)
                      refine z_lv (lv' := [(0, .int (iI ((r : Int)))), (1, .int (iI ((rk : Int)))), (2, .ref aq), (3, .ref aw), (4, .ref al), (5, .ref af), (6, .ref ag), (7, .int (iI z)), (8, .int (iI ((((zst9 s.2.2.1 + 1) : Nat) : Int)))), (9, .int (iI ((t : Int)))), (10, .int (iI 0)), (11, .int (iI 0)), (12, .int (iI 0))]) [3, 4, 5, 6, 7, 8, 9, 10, 11, 12, 2, 1, 0] rfl ?_
                      exact L128 ((zst9 s.2.2.1 + 1) + 1) 0 (by omega) (by omega)
                    · have hv : zvo s.1 (s.2.2.1 4) t r = 1 := by omega
                      have hv2 : zvo s.1 (s.2.2.1 4) (znf s.1 s.2.2.2.1 t) r = 1 := by rw [hnf]; exact hv
                      have hA2 : L ++ (zrc s.1 s.2.2.1 s.2.2.2.1 r (s.2.2.2.1 + 1) (t + 2 * r / 3 + 1)).1 = zitems s r ∧ (fs + 1) + (zrc s.1 s.2.2.1 s.2.2.2.1 r (s.2.2.2.1 + 1) (t + 2 * r / 3 + 1)).2 = zfls s.1 s.2.2.1 s.2.2.2.1 r := by
                        rw [zrc_false (by rw [hnf]; exact hlt) hv2, hnf, zrc_more hr s.2.2.2.1 (s.2.2.2.1 + 1) _ (by omega) (by omega)] at hA hB
                        exact ⟨hA, by omega⟩
                      refine z_aload (pc := 96) C dL_receives_96 5 rfl ?_
                      refine z_iconst (pc := 98) C dL_receives_98 ?_
                      refine z_dup2 (pc := 99) C dL_receives_99 rfl rfl ?_
                      refine z_iald (pc := 100) C dL_receives_100 3 rfl (5) (rfl) (by omega) (by decide) ?_
                      refine z_iconst (pc := 101) C dL_receives_101 ?_
                      refine z_iadd (pc := 102) C dL_receives_102 ?_
                      refine z_iast (ws' := [cI G aq 7 q, cI G aw 40 w, cI G al 51 (zlr c), cI G af 7 (zU f1 5 ((f1 5) + 1)), cI G ag 5 g1]) (pc := 103) C dL_receives_103 3 rfl (5) (rfl) (by omega) (by decide) rfl ?_
                      refine z_iload (pc := 104) C dL_receives_104 9 rfl ?_
                      refine z_iconst (pc := 106) C dL_receives_106 ?_
                      refine z_iload_n (pc := 107) C dL_receives_107 0 rfl ?_
                      refine z_imul (pc := 108) C dL_receives_108 ?_
                      refine z_iconst (pc := 109) C dL_receives_109 ?_
                      refine z_idiv (pc := 110) C dL_receives_110 ⟨by omega, by omega⟩ (by decide) ?_
                      refine z_iconst (pc := 111) C dL_receives_111 ?_
                      refine z_iadd (pc := 112) C dL_receives_112 ?_
                      refine z_iadd (pc := 113) C dL_receives_113 ?_
                      refine z_istore (lv' := [(9, .int (iI (((t : Int) + (((2 * (r : Int)) / 3) + 1))))), (0, .int (iI ((r : Int)))), (1, .int (iI ((rk : Int)))), (2, .ref aq), (3, .ref aw), (4, .ref al), (5, .ref af), (6, .ref ag), (7, .int (iI z)), (8, .int (iI ((((zst9 s.2.2.1 + 1) : Nat) : Int))))]) (pc := 114) C dL_receives_114 (by decide) rfl ?_
                      refine z_goto (tgt := 43) (pc := 116) C dL_receives_116 (by decide) ?_
                      refine z_lv (lv' := [(0, .int (iI ((r : Int)))), (1, .int (iI ((rk : Int)))), (2, .ref aq), (3, .ref aw), (4, .ref al), (5, .ref af), (6, .ref ag), (7, .int (iI z)), (8, .int (iI ((((zst9 s.2.2.1 + 1) : Nat) : Int)))), (9, .int (iI (((t : Int) + (((2 * (r : Int)) / 3) + 1)))))]) [1, 2, 3, 4, 5, 6, 7, 8, 9, 0] rfl ?_
                      refine z_eq rfl (lv2 := [(0, .int (iI ((r : Int)))), (1, .int (iI ((rk : Int)))), (2, .ref aq), (3, .ref aw), (4, .ref al), (5, .ref af), (6, .ref ag), (7, .int (iI z)), (8, .int (iI ((((zst9 s.2.2.1 + 1) : Nat) : Int)))), (9, .int (iI ((((t + 2 * r / 3 + 1) : Nat) : Int))))]) (by rw [show (t : Int) + (2 * (r : Int) / 3 + 1) = ((t + 2 * r / 3 + 1 : Nat) : Int) by omega]; first | done | rfl) rfl rfl ?_
                      exact ihM (t + 2 * r / 3 + 1) (fs + 1) L (zU f1 5 (f1 5 + 1)) g1 z (by omega) (by omega) (by omega) (by omega) (zFr_fs hF) hG hz hA2.1 hA2.2
                  · refine z_iinc (lv' := [(9, .int (iI (((t : Int) + 1)))), (0, .int (iI ((r : Int)))), (1, .int (iI ((rk : Int)))), (2, .ref aq), (3, .ref aw), (4, .ref al), (5, .ref af), (6, .ref ag), (7, .int (iI z)), (8, .int (iI ((((zst9 s.2.2.1 + 1) : Nat) : Int))))]) (pc := 76) C dL_receives_76 9 rfl (by decide) rfl ?_
                    refine z_goto (tgt := 43) (pc := 79) C dL_receives_79 (by decide) ?_
                    refine z_lv (lv' := [(0, .int (iI ((r : Int)))), (1, .int (iI ((rk : Int)))), (2, .ref aq), (3, .ref aw), (4, .ref al), (5, .ref af), (6, .ref ag), (7, .int (iI z)), (8, .int (iI ((((zst9 s.2.2.1 + 1) : Nat) : Int)))), (9, .int (iI (((t : Int) + 1))))]) [1, 2, 3, 4, 5, 6, 7, 8, 9, 0] rfl ?_
                    exact ihM (t + 1) fs L f1 g1 z (by omega) (by omega) (by omega) (by omega) hF hG hz (by rw [← zrc_step (by omega) (zfall_n (Or.inr (by omega)))]; exact hA) (by rw [← zrc_step (by omega) (zfall_n (Or.inr (by omega)))]; exact hB)
          refine z_lv (lv' := [(0, .int (iI ((r : Int)))), (1, .int (iI ((rk : Int)))), (2, .ref aq), (3, .ref aw), (4, .ref al), (5, .ref af), (6, .ref ag), (7, .int (iI 1)), (8, .int (iI ((((zst9 s.2.2.1 + 1) : Nat) : Int)))), (9, .int (iI 0))]) [1, 2, 3, 4, 5, 6, 7, 8, 9, 0] rfl ?_
          exact L43 3002 0 0 [] f1 g 1 (by omega) (by decide) (by omega) (by omega) (zFr_0 hf0) (zGr_0 _ _) (Or.inl ⟨rfl, zpw_0 _ _⟩) rfl (Nat.zero_add _)
        · refine z_aload (pc := 28) C dL_receives_28 5 rfl ?_
          refine z_iload (pc := 30) C dL_receives_30 9 rfl ?_
          refine z_iconst (pc := 32) C dL_receives_32 ?_
          refine z_iast (ws' := [cI G aq 7 q, cI G aw 40 w, cI G al 51 (zlr c), cI G af 7 (zU f1 i 0), cI G ag 5 g]) (pc := 33) C dL_receives_33 3 rfl (i) (by omega) (by omega) (by decide) rfl ?_
          refine z_iinc (lv' := [(9, .int (iI (((i : Int) + 1)))), (0, .int (iI ((r : Int)))), (1, .int (iI ((rk : Int)))), (2, .ref aq), (3, .ref aw), (4, .ref al), (5, .ref af), (6, .ref ag), (7, .int (iI 1)), (8, .int (iI ((((zst9 s.2.2.1 + 1) : Nat) : Int))))]) (pc := 34) C dL_receives_34 9 rfl (by decide) rfl ?_
          refine z_goto (tgt := 21) (pc := 37) C dL_receives_37 (by decide) ?_
          refine z_lv (lv' := [(0, .int (iI ((r : Int)))), (1, .int (iI ((rk : Int)))), (2, .ref aq), (3, .ref aw), (4, .ref al), (5, .ref af), (6, .ref ag), (7, .int (iI 1)), (8, .int (iI ((((zst9 s.2.2.1 + 1) : Nat) : Int)))), (9, .int (iI (((i : Int) + 1))))]) [1, 2, 3, 4, 5, 6, 7, 8, 9, 0] rfl ?_
          exact ih (i + 1) _ (by omega) (by omega) (fun j hj => by
            unfold zU
            split
            · rfl
            · exact hf0 j (by omega))
    refine z_lv (lv' := [(0, .int (iI ((r : Int)))), (1, .int (iI ((rk : Int)))), (2, .ref aq), (3, .ref aw), (4, .ref al), (5, .ref af), (6, .ref ag), (7, .int (iI 1)), (8, .int (iI ((((zst9 s.2.2.1 + 1) : Nat) : Int)))), (9, .int (iI 0))]) [3, 4, 5, 6, 7, 8, 9, 2, 1, 0] rfl ?_
    exact L21 8 0 f (by omega) (by omega) (fun j hj => absurd hj (by omega))
  refine z_aload_n (pc := 3) C dL_receives_3 3 rfl ?_
  refine z_iconst (pc := 4) C dL_receives_4 ?_
  refine z_iald (pc := 5) C dL_receives_5 0 rfl (2) (rfl) (by omega) (by decide) ?_
  refine z_if_le (tgt := 14) (pc := 6) C dL_receives_6 (by decide) ⟨by omega, by omega⟩ (fun c6 => ?_) (fun c6 => ?_)
  · refine z_bipush (pc := 14) C dL_receives_14 (by decide +kernel) ?_
    refine z_topi (y := (((zst9 s.2.2.1 + 1) : Nat) : Int)) (by rw [zst9_0 (by omega)]; rfl) ?_
    exact J16
  · refine z_bipush (pc := 9) C dL_receives_9 (by decide +kernel) ?_
    refine z_goto (tgt := 16) (pc := 11) C dL_receives_11 (by decide) ?_
    refine z_topi (y := (((zst9 s.2.2.1 + 1) : Nat) : Int)) (by rw [zst9_1 (by omega)]; rfl) ?_
    exact J16
