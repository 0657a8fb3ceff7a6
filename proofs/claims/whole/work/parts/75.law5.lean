/-! THE LAW: its loop, its start -/
set_option maxHeartbeats 4000000 in
set_option maxRecDepth 100000 in
theorem law_loop {l : Launch} {p : Program} {e : Env} {s : State} {mi : MethodId} {below : List Frame} {meth : Method} {c : Code} {b L : Nat} {xs : Nat → Int32} {G : ZG} (C0 : lw_At p s mi meth c b L xs) (C : ZC (p, e, room_1, s, mi, #[Value.ref b], below, meth, c) G (fun q => s.heap.size ≤ q, lw_Z below #[Value.ref b] s) 4 cL_law RL lw_tbl room_1 True) (S0 : zScr (p, e, room_1, s, mi, #[Value.ref b], below, meth, c) (fun q => s.heap.size ≤ q, lw_Z below #[Value.ref b] s) b L xs) (A B : Nat → Nat) : ∀ (n i : Nat) (V : Nat → ZV) (U : Nat → ZS) (N : Nat → Nat → Int) (m : Nat → Nat) (T : Nat → Int) (a : ZA) (J : Nat → Nat → Int) (j : Nat → Nat), L < i + n → i ≤ L → zab U m T = a → zmok m → zR5 J a → Z l (p, e, room_1, s, mi, #[Value.ref b], below, meth, c) G (fun q => s.heap.size ≤ q, lw_Z below #[Value.ref b] s) 4 55 12128 18 [(0, .ref b), (1, .ref ((A 0))), (2, .ref ((B 0))), (3, .int (iI ((i : Int))))] [] (zW G A V U N m T B a J j) := by
  intro n
  induction n with
  | zero => intro i V U N m T a J j hn hi; exact absurd hn (by omega)
  | succ n ih =>
    intro i V U N m T a J j hn hi ha hm hR
    subst ha
    have hL := S0.2.2.2
    refine z_iload_n (pc := 18) C dL_law_18 3 rfl ?_
    refine z_aload_n (pc := 19) C dL_law_19 0 rfl ?_
    refine z_slen (pc := 20) C S0 dL_law_20 ?_
    refine z_iconst (pc := 21) C dL_law_21 ?_
    refine z_isub (pc := 22) C dL_law_22 ?_
    refine z_icmp_gt (tgt := 636) (pc := 23) C dL_law_23 (by decide) ⟨by omega, by omega⟩ ⟨by omega, by omega⟩ (fun c23 => ?_) (fun c23 => ?_)
    · refine z_iconst (pc := 636) C dL_law_636 ?_
      exact z_end (pc := 637) C0 dL_law_637 (Nat.le_of_ble_eq_true rfl) (Nat.le_of_ble_eq_true rfl)
    · have hi3 : i + 3 ≤ L := by omega
      have kk : zBack l (p, e, room_1, s, mi, #[Value.ref b], below, meth, c) G (fun q => s.heap.size ≤ q, lw_Z below #[Value.ref b] s) A B b i := by
        intro V U N m T J j hm hR
        refine z_iinc (lv' := [(3, .int (iI (((i : Int) + 3)))), (0, .ref b), (1, .ref ((A 0))), (2, .ref ((B 0)))]) (pc := 630) C dL_law_630 3 rfl (by decide) rfl ?_
        refine z_goto (tgt := 18) (pc := 633) C dL_law_633 (by decide) ?_
        refine z_lv (lv' := [(0, .ref b), (1, .ref ((A 0))), (2, .ref ((B 0))), (3, .int (iI (((i : Int) + 3))))]) [1, 2, 3, 0] rfl ?_
        exact ih (i + 3) V U N m T _ J j (by omega) (by omega) rfl hm hR
      refine z_aload_n (pc := 26) C dL_law_26 0 rfl ?_
      refine z_iload_n (pc := 27) C dL_law_27 3 rfl ?_
      refine z_sld (pc := 28) C S0 dL_law_28 (i) (by omega) (by omega) ?_
      refine z_bipush (pc := 29) C dL_law_29 (by decide +kernel) ?_
      obtain ⟨w, hw0, hw1, hw2⟩ := zx_31 (iI (zx xs i))
      refine z_iand32 (pc := 31) C dL_law_31 ?_
      refine z_top (y := iI w) hw2 ?_
      rcases (show w = 0 ∨ w = 1 ∨ w = 2 ∨ w = 3 ∨ w = 4 ∨ w = 5 ∨ w = 6 ∨ w = 7 ∨ w = 8 ∨ w = 9 ∨ w = 10 ∨ w = 11 ∨ w = 12 ∨ w = 13 ∨ w = 14 ∨ w = 15 ∨ w = 16 ∨ w = 17 ∨ w = 18 ∨ w = 19 ∨ w = 20 ∨ w = 21 ∨ 22 ≤ w by omega) with hs | hs | hs | hs | hs | hs | hs | hs | hs | hs | hs | hs | hs | hs | hs | hs | hs | hs | hs | hs | hs | hs | hs
      · refine z_topi (y := 0) hs ?_
        refine z_tabIn (tgt := 136) (pc := 32) C dL_law_32 (by decide) (by decide) (by decide) rfl (by decide) ?_
        exact law_c0 C S0 A V U N m T B J j i hi3 hm hR kk
      · refine z_topi (y := 1) hs ?_
        refine z_tabIn (tgt := 159) (pc := 32) C dL_law_32 (by decide) (by decide) (by decide) rfl (by decide) ?_
        exact law_c1 C S0 A V U N m T B J j i hi3 hm hR kk
      · refine z_topi (y := 2) hs ?_
        refine z_tabIn (tgt := 182) (pc := 32) C dL_law_32 (by decide) (by decide) (by decide) rfl (by decide) ?_
        exact law_c2 C S0 A V U N m T B J j i hi3 hm hR kk
      · refine z_topi (y := 3) hs ?_
        refine z_tabIn (tgt := 205) (pc := 32) C dL_law_32 (by decide) (by decide) (by decide) rfl (by decide) ?_
        exact law_c3 C S0 A V U N m T B J j i hi3 hm hR kk
      · refine z_topi (y := 4) hs ?_
        refine z_tabIn (tgt := 238) (pc := 32) C dL_law_32 (by decide) (by decide) (by decide) rfl (by decide) ?_
        exact law_c4 C S0 A V U N m T B J j i hi3 hm hR kk
      · refine z_topi (y := 5) hs ?_
        refine z_tabIn (tgt := 251) (pc := 32) C dL_law_32 (by decide) (by decide) (by decide) rfl (by decide) ?_
        exact law_c5 C S0 A V U N m T B J j i hi3 hm hR kk
      · refine z_topi (y := 6) hs ?_
        refine z_tabIn (tgt := 284) (pc := 32) C dL_law_32 (by decide) (by decide) (by decide) rfl (by decide) ?_
        exact law_c6 C S0 A V U N m T B J j i hi3 hm hR kk
      · refine z_topi (y := 7) hs ?_
        refine z_tabIn (tgt := 297) (pc := 32) C dL_law_32 (by decide) (by decide) (by decide) rfl (by decide) ?_
        exact law_c7 C S0 A V U N m T B J j i hi3 hm hR kk
      · refine z_topi (y := 8) hs ?_
        refine z_tabIn (tgt := 322) (pc := 32) C dL_law_32 (by decide) (by decide) (by decide) rfl (by decide) ?_
        exact law_c8 C S0 A V U N m T B J j i hi3 hm hR kk
      · refine z_topi (y := 9) hs ?_
        refine z_tabIn (tgt := 335) (pc := 32) C dL_law_32 (by decide) (by decide) (by decide) rfl (by decide) ?_
        exact law_c9 C S0 A V U N m T B J j i hi3 hm hR kk
      · refine z_topi (y := 10) hs ?_
        refine z_tabIn (tgt := 348) (pc := 32) C dL_law_32 (by decide) (by decide) (by decide) rfl (by decide) ?_
        exact law_c10 C S0 A V U N m T B J j i hi3 hm hR kk
      · refine z_topi (y := 11) hs ?_
        refine z_tabIn (tgt := 361) (pc := 32) C dL_law_32 (by decide) (by decide) (by decide) rfl (by decide) ?_
        exact law_c11 C S0 A V U N m T B J j i hi3 hm hR kk
      · refine z_topi (y := 12) hs ?_
        refine z_tabIn (tgt := 374) (pc := 32) C dL_law_32 (by decide) (by decide) (by decide) rfl (by decide) ?_
        exact law_c12 C S0 A V U N m T B J j i hi3 hm hR kk
      · refine z_topi (y := 13) hs ?_
        refine z_tabIn (tgt := 387) (pc := 32) C dL_law_32 (by decide) (by decide) (by decide) rfl (by decide) ?_
        exact law_c13 C S0 A V U N m T B J j i hi3 hm hR kk
      · refine z_topi (y := 14) hs ?_
        refine z_tabIn (tgt := 410) (pc := 32) C dL_law_32 (by decide) (by decide) (by decide) rfl (by decide) ?_
        exact law_c14 C S0 A V U N m T B J j i hi3 hm hR kk
      · refine z_topi (y := 15) hs ?_
        refine z_tabIn (tgt := 433) (pc := 32) C dL_law_32 (by decide) (by decide) (by decide) rfl (by decide) ?_
        exact law_c15 C S0 A V U N m T B J j i hi3 hm hR kk
      · refine z_topi (y := 16) hs ?_
        refine z_tabIn (tgt := 456) (pc := 32) C dL_law_32 (by decide) (by decide) (by decide) rfl (by decide) ?_
        exact law_c16 C S0 A V U N m T B J j i hi3 hm hR kk
      · refine z_topi (y := 17) hs ?_
        refine z_tabIn (tgt := 489) (pc := 32) C dL_law_32 (by decide) (by decide) (by decide) rfl (by decide) ?_
        exact law_c17 C S0 A V U N m T B J j i hi3 hm hR kk
      · refine z_topi (y := 18) hs ?_
        refine z_tabIn (tgt := 512) (pc := 32) C dL_law_32 (by decide) (by decide) (by decide) rfl (by decide) ?_
        exact law_c18 C S0 A V U N m T B J j i hi3 hm hR kk
      · refine z_topi (y := 19) hs ?_
        refine z_tabIn (tgt := 545) (pc := 32) C dL_law_32 (by decide) (by decide) (by decide) rfl (by decide) ?_
        exact law_c19 C S0 A V U N m T B J j i hi3 hm hR kk
      · refine z_topi (y := 20) hs ?_
        refine z_tabIn (tgt := 584) (pc := 32) C dL_law_32 (by decide) (by decide) (by decide) rfl (by decide) ?_
        exact law_c20 C S0 A V U N m T B J j i hi3 hm hR kk
      · refine z_topi (y := 21) hs ?_
        refine z_tabIn (tgt := 607) (pc := 32) C dL_law_32 (by decide) (by decide) (by decide) rfl (by decide) ?_
        exact law_c21 C S0 A V U N m T B J j i hi3 hm hR kk
      · refine z_tabOut (tgt := 630) (pc := 32) C dL_law_32 ⟨by omega, by omega⟩ (by omega) (by decide) ?_
        exact kk V U N m T J j hm hR

theorem dfX4 : ∀ j, j < 5 → defaultValue (tyX4 j) = vp_V [.null, .null, .null, .null, .null] j := fun j hj => match j, hj with
  | 0, _ => rfl
  | 1, _ => rfl
  | 2, _ => rfl
  | 3, _ => rfl
  | 4, _ => rfl
  | q + 5, h => absurd h (by omega)
theorem nyX4_init : yX4_init.cls ≠ "java/lang/invoke/MethodHandle" ∧ yX4_init.cls ≠ "java/lang/invoke/VarHandle" ∧ (parseMethodDescriptor yX4_init.desc).map (fun d => d.parameters.length) = some 0 := by decide +kernel
theorem dfX5 : ∀ j, j < 20 → defaultValue (tyX5 j) = vp_V [.null, .null, .int (iI 0), .null, .int (iI 0), .null, .null, .int (iI 0), .int (iI 0), .int (iI 0), .null, .null, .int (iI 0), .int (iI 0), .null, .null, .null, .null, .null, .int (iI 0)] j := fun j hj => match j, hj with
  | 0, _ => rfl
  | 1, _ => rfl
  | 2, _ => rfl
  | 3, _ => rfl
  | 4, _ => rfl
  | 5, _ => rfl
  | 6, _ => rfl
  | 7, _ => rfl
  | 8, _ => rfl
  | 9, _ => rfl
  | 10, _ => rfl
  | 11, _ => rfl
  | 12, _ => rfl
  | 13, _ => rfl
  | 14, _ => rfl
  | 15, _ => rfl
  | 16, _ => rfl
  | 17, _ => rfl
  | 18, _ => rfl
  | 19, _ => rfl
  | q + 20, h => absurd h (by omega)
theorem nyX5_init : yX5_init.cls ≠ "java/lang/invoke/MethodHandle" ∧ yX5_init.cls ≠ "java/lang/invoke/VarHandle" ∧ (parseMethodDescriptor yX5_init.desc).map (fun d => d.parameters.length) = some 0 := by decide +kernel
set_option maxHeartbeats 4000000 in
set_option maxRecDepth 100000 in
theorem law_start {l : Launch} {p : Program} {e : Env} {s : State} {mi : MethodId} {below : List Frame} {meth : Method} {c : Code} {b L : Nat} {xs : Nat → Int32} {G : ZG} (C0 : lw_At p s mi meth c b L xs) (C : ZC (p, e, room_1, s, mi, #[Value.ref b], below, meth, c) G (fun q => s.heap.size ≤ q, lw_Z below #[Value.ref b] s) 4 cL_law RL lw_tbl room_1 True) (S0 : zScr (p, e, room_1, s, mi, #[Value.ref b], below, meth, c) (fun q => s.heap.size ≤ q, lw_Z below #[Value.ref b] s) b L xs) : Z l (p, e, room_1, s, mi, #[Value.ref b], below, meth, c) G (fun q => s.heap.size ≤ q, lw_Z below #[Value.ref b] s) 4 0 0 0 [(0, .ref b)] [] [] := by
  refine z_new (pc := 0) C tyX4 [.null, .null, .null, .null, .null] dL_law_0 (ci := 4) rfl tyX4_ok (by decide +kernel) (by decide +kernel) (by decide +kernel) (by decide +kernel) dfX4 (Nat.le_of_ble_eq_true rfl) (Nat.le_of_ble_eq_true rfl) (fun r0 => ?_)
  refine z_fix (pc2 := 3) (st2 := [.ref r0]) (ws' := [(r0, .inr (4, [.null, .null, .null, .null, .null]))]) [0] rfl rfl rfl (by decide) ?_
  refine z_dup (pc := 3) C dL_law_3 rfl ?_
  refine z_callI (As := []) (rest := [.ref r0]) (wc := [(r0, .inr (4, [.null, .null, .null, .null, .null]))]) (wr := []) (pc := 4) C dL_law_4 (k_X4_init l G r0 ) gL_law_X4_init ⟨⟨_, rfl⟩, ⟨rfl, rfl⟩, nyX4_init, ⟨Nat.le_of_ble_eq_true rfl, Nat.le_of_ble_eq_true rfl⟩⟩ (by decide +kernel) (by decide +kernel) (by decide +kernel) rfl (fun h => h) rfl (Nat.le_of_ble_eq_true rfl) [0] [] rfl rfl (by decide) (by decide) (by decide) ⟨Nat.le_of_ble_eq_true rfl, Nat.le_of_ble_eq_true rfl⟩ (fun v w hk => ?_)
  obtain ⟨A9_4, V9_4, U9_4, N9_4, m9_4, T9_4, h4_0, h4_1, h4_2, rfl, rfl⟩ := hk
  refine z_fix (pc2 := 7) (st2 := [.ref r0]) (ws' := [((A9_4 0), .inr (4, [.ref ((V9_4 0).1), .ref ((V9_4 1).1), .ref ((A9_4 1)), .ref ((A9_4 8)), .ref ((A9_4 12))])), ((V9_4 0).1, .inr (2, [.ref ((V9_4 0).2.1), .ref ((V9_4 0).2.2.1), .ref ((V9_4 0).2.2.2), .int (iI ((((U9_4 0).2.2.2.1 : Nat) : Int))), .int (iI ((((U9_4 0).2.2.2.2 : Nat) : Int)))])), cL G ((V9_4 0).2.1) 24 (zrw ((U9_4 0).1)), cI G ((V9_4 0).2.2.1) 37 ((U9_4 0).2.1), cI G ((V9_4 0).2.2.2) 5 ((U9_4 0).2.2.1), ((V9_4 1).1, .inr (2, [.ref ((V9_4 1).2.1), .ref ((V9_4 1).2.2.1), .ref ((V9_4 1).2.2.2), .int (iI ((((U9_4 1).2.2.2.1 : Nat) : Int))), .int (iI ((((U9_4 1).2.2.2.2 : Nat) : Int)))])), cL G ((V9_4 1).2.1) 24 (zrw ((U9_4 1).1)), cI G ((V9_4 1).2.2.1) 37 ((U9_4 1).2.1), cI G ((V9_4 1).2.2.2) 5 ((U9_4 1).2.2.1), ((A9_4 1), .inr (1, [.ref ((A9_4 2)), .int (iI ((((m9_4 0) : Nat) : Int))), .int (iI ((((m9_4 1) : Nat) : Int))), .int (iI ((((m9_4 2) : Nat) : Int)))])), cM G (A9_4 2) 5 (zna (A9_4 3) (A9_4 4) (A9_4 5) (A9_4 6) (A9_4 7)), cI G (A9_4 3) 39 (N9_4 0), cI G (A9_4 4) 39 (N9_4 1), cI G (A9_4 5) 39 (N9_4 2), cI G (A9_4 6) 39 (N9_4 3), cI G (A9_4 7) 39 (N9_4 4), ((A9_4 8), .inr (3, [.ref ((A9_4 9)), .ref ((A9_4 10)), .ref ((A9_4 11)), .int (iI ((((m9_4 3) : Nat) : Int))), .int (iI ((((m9_4 6) : Nat) : Int)))])), cC G (A9_4 9) 60 T9_4, cI G (A9_4 10) 30 (N9_4 5), cI G (A9_4 11) 30 (N9_4 6), ((A9_4 12), .inr (0, [.ref ((A9_4 13)), .ref ((V9_4 6).1), .int (iI ((((m9_4 4) : Nat) : Int))), .int (iI ((((m9_4 5) : Nat) : Int)))])), cS G (A9_4 13) 4 (zsa (V9_4 2).1 (V9_4 3).1 (V9_4 4).1 (V9_4 5).1), ((V9_4 2).1, .inr (2, [.ref ((V9_4 2).2.1), .ref ((V9_4 2).2.2.1), .ref ((V9_4 2).2.2.2), .int (iI ((((U9_4 2).2.2.2.1 : Nat) : Int))), .int (iI ((((U9_4 2).2.2.2.2 : Nat) : Int)))])), cL G ((V9_4 2).2.1) 24 (zrw ((U9_4 2).1)), cI G ((V9_4 2).2.2.1) 37 ((U9_4 2).2.1), cI G ((V9_4 2).2.2.2) 5 ((U9_4 2).2.2.1), ((V9_4 3).1, .inr (2, [.ref ((V9_4 3).2.1), .ref ((V9_4 3).2.2.1), .ref ((V9_4 3).2.2.2), .int (iI ((((U9_4 3).2.2.2.1 : Nat) : Int))), .int (iI ((((U9_4 3).2.2.2.2 : Nat) : Int)))])), cL G ((V9_4 3).2.1) 24 (zrw ((U9_4 3).1)), cI G ((V9_4 3).2.2.1) 37 ((U9_4 3).2.1), cI G ((V9_4 3).2.2.2) 5 ((U9_4 3).2.2.1), ((V9_4 4).1, .inr (2, [.ref ((V9_4 4).2.1), .ref ((V9_4 4).2.2.1), .ref ((V9_4 4).2.2.2), .int (iI ((((U9_4 4).2.2.2.1 : Nat) : Int))), .int (iI ((((U9_4 4).2.2.2.2 : Nat) : Int)))])), cL G ((V9_4 4).2.1) 24 (zrw ((U9_4 4).1)), cI G ((V9_4 4).2.2.1) 37 ((U9_4 4).2.1), cI G ((V9_4 4).2.2.2) 5 ((U9_4 4).2.2.1), ((V9_4 5).1, .inr (2, [.ref ((V9_4 5).2.1), .ref ((V9_4 5).2.2.1), .ref ((V9_4 5).2.2.2), .int (iI ((((U9_4 5).2.2.2.1 : Nat) : Int))), .int (iI ((((U9_4 5).2.2.2.2 : Nat) : Int)))])), cL G ((V9_4 5).2.1) 24 (zrw ((U9_4 5).1)), cI G ((V9_4 5).2.2.1) 37 ((U9_4 5).2.1), cI G ((V9_4 5).2.2.2) 5 ((U9_4 5).2.2.1), ((V9_4 6).1, .inr (2, [.ref ((V9_4 6).2.1), .ref ((V9_4 6).2.2.1), .ref ((V9_4 6).2.2.2), .int (iI ((((U9_4 6).2.2.2.1 : Nat) : Int))), .int (iI ((((U9_4 6).2.2.2.2 : Nat) : Int)))])), cL G ((V9_4 6).2.1) 24 (zrw ((U9_4 6).1)), cI G ((V9_4 6).2.2.1) 37 ((U9_4 6).2.1), cI G ((V9_4 6).2.2.2) 5 ((U9_4 6).2.2.1)]) [0, 1, 2, 3, 4, 5, 6, 7, 8, 9, 10, 11, 12, 13, 14, 15, 16, 17, 18, 19, 20, 21, 22, 23, 24, 25, 26, 27, 28, 29, 30, 31, 32, 33, 34, 35, 36, 37, 38, 39, 40, 41] rfl rfl rfl (by decide) ?_
  subst h4_0
  refine z_astore_n (lv' := [(1, .ref ((A9_4 0))), (0, .ref b)]) (pc := 7) C dL_law_7 (by decide) rfl ?_
  refine z_new (pc := 8) C tyX5 [.null, .null, .int (iI 0), .null, .int (iI 0), .null, .null, .int (iI 0), .int (iI 0), .int (iI 0), .null, .null, .int (iI 0), .int (iI 0), .null, .null, .null, .null, .null, .int (iI 0)] dL_law_8 (ci := 5) rfl tyX5_ok (by decide +kernel) (by decide +kernel) (by decide +kernel) (by decide +kernel) dfX5 (Nat.le_of_ble_eq_true rfl) (Nat.le_of_ble_eq_true rfl) (fun r8 => ?_)
  refine z_fix (pc2 := 11) (st2 := [.ref r8]) (ws' := [((A9_4 0), .inr (4, [.ref ((V9_4 0).1), .ref ((V9_4 1).1), .ref ((A9_4 1)), .ref ((A9_4 8)), .ref ((A9_4 12))])), ((V9_4 0).1, .inr (2, [.ref ((V9_4 0).2.1), .ref ((V9_4 0).2.2.1), .ref ((V9_4 0).2.2.2), .int (iI ((((U9_4 0).2.2.2.1 : Nat) : Int))), .int (iI ((((U9_4 0).2.2.2.2 : Nat) : Int)))])), cL G ((V9_4 0).2.1) 24 (zrw ((U9_4 0).1)), cI G ((V9_4 0).2.2.1) 37 ((U9_4 0).2.1), cI G ((V9_4 0).2.2.2) 5 ((U9_4 0).2.2.1), ((V9_4 1).1, .inr (2, [.ref ((V9_4 1).2.1), .ref ((V9_4 1).2.2.1), .ref ((V9_4 1).2.2.2), .int (iI ((((U9_4 1).2.2.2.1 : Nat) : Int))), .int (iI ((((U9_4 1).2.2.2.2 : Nat) : Int)))])), cL G ((V9_4 1).2.1) 24 (zrw ((U9_4 1).1)), cI G ((V9_4 1).2.2.1) 37 ((U9_4 1).2.1), cI G ((V9_4 1).2.2.2) 5 ((U9_4 1).2.2.1), ((A9_4 1), .inr (1, [.ref ((A9_4 2)), .int (iI ((((m9_4 0) : Nat) : Int))), .int (iI ((((m9_4 1) : Nat) : Int))), .int (iI ((((m9_4 2) : Nat) : Int)))])), cM G (A9_4 2) 5 (zna (A9_4 3) (A9_4 4) (A9_4 5) (A9_4 6) (A9_4 7)), cI G (A9_4 3) 39 (N9_4 0), cI G (A9_4 4) 39 (N9_4 1), cI G (A9_4 5) 39 (N9_4 2), cI G (A9_4 6) 39 (N9_4 3), cI G (A9_4 7) 39 (N9_4 4), ((A9_4 8), .inr (3, [.ref ((A9_4 9)), .ref ((A9_4 10)), .ref ((A9_4 11)), .int (iI ((((m9_4 3) : Nat) : Int))), .int (iI ((((m9_4 6) : Nat) : Int)))])), cC G (A9_4 9) 60 T9_4, cI G (A9_4 10) 30 (N9_4 5), cI G (A9_4 11) 30 (N9_4 6), ((A9_4 12), .inr (0, [.ref ((A9_4 13)), .ref ((V9_4 6).1), .int (iI ((((m9_4 4) : Nat) : Int))), .int (iI ((((m9_4 5) : Nat) : Int)))])), cS G (A9_4 13) 4 (zsa (V9_4 2).1 (V9_4 3).1 (V9_4 4).1 (V9_4 5).1), ((V9_4 2).1, .inr (2, [.ref ((V9_4 2).2.1), .ref ((V9_4 2).2.2.1), .ref ((V9_4 2).2.2.2), .int (iI ((((U9_4 2).2.2.2.1 : Nat) : Int))), .int (iI ((((U9_4 2).2.2.2.2 : Nat) : Int)))])), cL G ((V9_4 2).2.1) 24 (zrw ((U9_4 2).1)), cI G ((V9_4 2).2.2.1) 37 ((U9_4 2).2.1), cI G ((V9_4 2).2.2.2) 5 ((U9_4 2).2.2.1), ((V9_4 3).1, .inr (2, [.ref ((V9_4 3).2.1), .ref ((V9_4 3).2.2.1), .ref ((V9_4 3).2.2.2), .int (iI ((((U9_4 3).2.2.2.1 : Nat) : Int))), .int (iI ((((U9_4 3).2.2.2.2 : Nat) : Int)))])), cL G ((V9_4 3).2.1) 24 (zrw ((U9_4 3).1)), cI G ((V9_4 3).2.2.1) 37 ((U9_4 3).2.1), cI G ((V9_4 3).2.2.2) 5 ((U9_4 3).2.2.1), ((V9_4 4).1, .inr (2, [.ref ((V9_4 4).2.1), .ref ((V9_4 4).2.2.1), .ref ((V9_4 4).2.2.2), .int (iI ((((U9_4 4).2.2.2.1 : Nat) : Int))), .int (iI ((((U9_4 4).2.2.2.2 : Nat) : Int)))])), cL G ((V9_4 4).2.1) 24 (zrw ((U9_4 4).1)), cI G ((V9_4 4).2.2.1) 37 ((U9_4 4).2.1), cI G ((V9_4 4).2.2.2) 5 ((U9_4 4).2.2.1), ((V9_4 5).1, .inr (2, [.ref ((V9_4 5).2.1), .ref ((V9_4 5).2.2.1), .ref ((V9_4 5).2.2.2), .int (iI ((((U9_4 5).2.2.2.1 : Nat) : Int))), .int (iI ((((U9_4 5).2.2.2.2 : Nat) : Int)))])), cL G ((V9_4 5).2.1) 24 (zrw ((U9_4 5).1)), cI G ((V9_4 5).2.2.1) 37 ((U9_4 5).2.1), cI G ((V9_4 5).2.2.2) 5 ((U9_4 5).2.2.1), ((V9_4 6).1, .inr (2, [.ref ((V9_4 6).2.1), .ref ((V9_4 6).2.2.1), .ref ((V9_4 6).2.2.2), .int (iI ((((U9_4 6).2.2.2.1 : Nat) : Int))), .int (iI ((((U9_4 6).2.2.2.2 : Nat) : Int)))])), cL G ((V9_4 6).2.1) 24 (zrw ((U9_4 6).1)), cI G ((V9_4 6).2.2.1) 37 ((U9_4 6).2.1), cI G ((V9_4 6).2.2.2) 5 ((U9_4 6).2.2.1), (r8, .inr (5, [.null, .null, .int (iI 0), .null, .int (iI 0), .null, .null, .int (iI 0), .int (iI 0), .int (iI 0), .null, .null, .int (iI 0), .int (iI 0), .null, .null, .null, .null, .null, .int (iI 0)]))]) [0, 1, 2, 3, 4, 5, 6, 7, 8, 9, 10, 11, 12, 13, 14, 15, 16, 17, 18, 19, 20, 21, 22, 23, 24, 25, 26, 27, 28, 29, 30, 31, 32, 33, 34, 35, 36, 37, 38, 39, 40, 41, 42] rfl rfl rfl (by decide) ?_
  refine z_dup (pc := 11) C dL_law_11 rfl ?_
  refine z_callI (As := []) (rest := [.ref r8]) (wc := [(r8, .inr (5, [.null, .null, .int (iI 0), .null, .int (iI 0), .null, .null, .int (iI 0), .int (iI 0), .int (iI 0), .null, .null, .int (iI 0), .int (iI 0), .null, .null, .null, .null, .null, .int (iI 0)]))]) (wr := [((A9_4 0), .inr (4, [.ref ((V9_4 0).1), .ref ((V9_4 1).1), .ref ((A9_4 1)), .ref ((A9_4 8)), .ref ((A9_4 12))])), ((V9_4 0).1, .inr (2, [.ref ((V9_4 0).2.1), .ref ((V9_4 0).2.2.1), .ref ((V9_4 0).2.2.2), .int (iI ((((U9_4 0).2.2.2.1 : Nat) : Int))), .int (iI ((((U9_4 0).2.2.2.2 : Nat) : Int)))])), cL G ((V9_4 0).2.1) 24 (zrw ((U9_4 0).1)), cI G ((V9_4 0).2.2.1) 37 ((U9_4 0).2.1), cI G ((V9_4 0).2.2.2) 5 ((U9_4 0).2.2.1), ((V9_4 1).1, .inr (2, [.ref ((V9_4 1).2.1), .ref ((V9_4 1).2.2.1), .ref ((V9_4 1).2.2.2), .int (iI ((((U9_4 1).2.2.2.1 : Nat) : Int))), .int (iI ((((U9_4 1).2.2.2.2 : Nat) : Int)))])), cL G ((V9_4 1).2.1) 24 (zrw ((U9_4 1).1)), cI G ((V9_4 1).2.2.1) 37 ((U9_4 1).2.1), cI G ((V9_4 1).2.2.2) 5 ((U9_4 1).2.2.1), ((A9_4 1), .inr (1, [.ref ((A9_4 2)), .int (iI ((((m9_4 0) : Nat) : Int))), .int (iI ((((m9_4 1) : Nat) : Int))), .int (iI ((((m9_4 2) : Nat) : Int)))])), cM G (A9_4 2) 5 (zna (A9_4 3) (A9_4 4) (A9_4 5) (A9_4 6) (A9_4 7)), cI G (A9_4 3) 39 (N9_4 0), cI G (A9_4 4) 39 (N9_4 1), cI G (A9_4 5) 39 (N9_4 2), cI G (A9_4 6) 39 (N9_4 3), cI G (A9_4 7) 39 (N9_4 4), ((A9_4 8), .inr (3, [.ref ((A9_4 9)), .ref ((A9_4 10)), .ref ((A9_4 11)), .int (iI ((((m9_4 3) : Nat) : Int))), .int (iI ((((m9_4 6) : Nat) : Int)))])), cC G (A9_4 9) 60 T9_4, cI G (A9_4 10) 30 (N9_4 5), cI G (A9_4 11) 30 (N9_4 6), ((A9_4 12), .inr (0, [.ref ((A9_4 13)), .ref ((V9_4 6).1), .int (iI ((((m9_4 4) : Nat) : Int))), .int (iI ((((m9_4 5) : Nat) : Int)))])), cS G (A9_4 13) 4 (zsa (V9_4 2).1 (V9_4 3).1 (V9_4 4).1 (V9_4 5).1), ((V9_4 2).1, .inr (2, [.ref ((V9_4 2).2.1), .ref ((V9_4 2).2.2.1), .ref ((V9_4 2).2.2.2), .int (iI ((((U9_4 2).2.2.2.1 : Nat) : Int))), .int (iI ((((U9_4 2).2.2.2.2 : Nat) : Int)))])), cL G ((V9_4 2).2.1) 24 (zrw ((U9_4 2).1)), cI G ((V9_4 2).2.2.1) 37 ((U9_4 2).2.1), cI G ((V9_4 2).2.2.2) 5 ((U9_4 2).2.2.1), ((V9_4 3).1, .inr (2, [.ref ((V9_4 3).2.1), .ref ((V9_4 3).2.2.1), .ref ((V9_4 3).2.2.2), .int (iI ((((U9_4 3).2.2.2.1 : Nat) : Int))), .int (iI ((((U9_4 3).2.2.2.2 : Nat) : Int)))])), cL G ((V9_4 3).2.1) 24 (zrw ((U9_4 3).1)), cI G ((V9_4 3).2.2.1) 37 ((U9_4 3).2.1), cI G ((V9_4 3).2.2.2) 5 ((U9_4 3).2.2.1), ((V9_4 4).1, .inr (2, [.ref ((V9_4 4).2.1), .ref ((V9_4 4).2.2.1), .ref ((V9_4 4).2.2.2), .int (iI ((((U9_4 4).2.2.2.1 : Nat) : Int))), .int (iI ((((U9_4 4).2.2.2.2 : Nat) : Int)))])), cL G ((V9_4 4).2.1) 24 (zrw ((U9_4 4).1)), cI G ((V9_4 4).2.2.1) 37 ((U9_4 4).2.1), cI G ((V9_4 4).2.2.2) 5 ((U9_4 4).2.2.1), ((V9_4 5).1, .inr (2, [.ref ((V9_4 5).2.1), .ref ((V9_4 5).2.2.1), .ref ((V9_4 5).2.2.2), .int (iI ((((U9_4 5).2.2.2.1 : Nat) : Int))), .int (iI ((((U9_4 5).2.2.2.2 : Nat) : Int)))])), cL G ((V9_4 5).2.1) 24 (zrw ((U9_4 5).1)), cI G ((V9_4 5).2.2.1) 37 ((U9_4 5).2.1), cI G ((V9_4 5).2.2.2) 5 ((U9_4 5).2.2.1), ((V9_4 6).1, .inr (2, [.ref ((V9_4 6).2.1), .ref ((V9_4 6).2.2.1), .ref ((V9_4 6).2.2.2), .int (iI ((((U9_4 6).2.2.2.1 : Nat) : Int))), .int (iI ((((U9_4 6).2.2.2.2 : Nat) : Int)))])), cL G ((V9_4 6).2.1) 24 (zrw ((U9_4 6).1)), cI G ((V9_4 6).2.2.1) 37 ((U9_4 6).2.1), cI G ((V9_4 6).2.2.2) 5 ((U9_4 6).2.2.1)]) (pc := 12) C dL_law_12 (k_X5_init l G r8 ) gL_law_X5_init ⟨⟨_, rfl⟩, ⟨rfl, rfl⟩, nyX5_init, ⟨Nat.le_of_ble_eq_true rfl, Nat.le_of_ble_eq_true rfl⟩⟩ (by decide +kernel) (by decide +kernel) (by decide +kernel) rfl (fun h => h.elim) rfl (Nat.le_of_ble_eq_true rfl) [42] [0, 1, 2, 3, 4, 5, 6, 7, 8, 9, 10, 11, 12, 13, 14, 15, 16, 17, 18, 19, 20, 21, 22, 23, 24, 25, 26, 27, 28, 29, 30, 31, 32, 33, 34, 35, 36, 37, 38, 39, 40, 41] rfl rfl (by decide) (by decide) (by decide) ⟨Nat.le_of_ble_eq_true rfl, Nat.le_of_ble_eq_true rfl⟩ (fun v w hk => ?_)
  obtain ⟨B9_12, J9_12, j9_12, h12_0, h12_1, rfl, rfl⟩ := hk
  refine z_fix (pc2 := 15) (st2 := [.ref r8]) (ws' := [((A9_4 0), .inr (4, [.ref ((V9_4 0).1), .ref ((V9_4 1).1), .ref ((A9_4 1)), .ref ((A9_4 8)), .ref ((A9_4 12))])), ((V9_4 0).1, .inr (2, [.ref ((V9_4 0).2.1), .ref ((V9_4 0).2.2.1), .ref ((V9_4 0).2.2.2), .int (iI ((((U9_4 0).2.2.2.1 : Nat) : Int))), .int (iI ((((U9_4 0).2.2.2.2 : Nat) : Int)))])), cL G ((V9_4 0).2.1) 24 (zrw ((U9_4 0).1)), cI G ((V9_4 0).2.2.1) 37 ((U9_4 0).2.1), cI G ((V9_4 0).2.2.2) 5 ((U9_4 0).2.2.1), ((V9_4 1).1, .inr (2, [.ref ((V9_4 1).2.1), .ref ((V9_4 1).2.2.1), .ref ((V9_4 1).2.2.2), .int (iI ((((U9_4 1).2.2.2.1 : Nat) : Int))), .int (iI ((((U9_4 1).2.2.2.2 : Nat) : Int)))])), cL G ((V9_4 1).2.1) 24 (zrw ((U9_4 1).1)), cI G ((V9_4 1).2.2.1) 37 ((U9_4 1).2.1), cI G ((V9_4 1).2.2.2) 5 ((U9_4 1).2.2.1), ((A9_4 1), .inr (1, [.ref ((A9_4 2)), .int (iI ((((m9_4 0) : Nat) : Int))), .int (iI ((((m9_4 1) : Nat) : Int))), .int (iI ((((m9_4 2) : Nat) : Int)))])), cM G (A9_4 2) 5 (zna (A9_4 3) (A9_4 4) (A9_4 5) (A9_4 6) (A9_4 7)), cI G (A9_4 3) 39 (N9_4 0), cI G (A9_4 4) 39 (N9_4 1), cI G (A9_4 5) 39 (N9_4 2), cI G (A9_4 6) 39 (N9_4 3), cI G (A9_4 7) 39 (N9_4 4), ((A9_4 8), .inr (3, [.ref ((A9_4 9)), .ref ((A9_4 10)), .ref ((A9_4 11)), .int (iI ((((m9_4 3) : Nat) : Int))), .int (iI ((((m9_4 6) : Nat) : Int)))])), cC G (A9_4 9) 60 T9_4, cI G (A9_4 10) 30 (N9_4 5), cI G (A9_4 11) 30 (N9_4 6), ((A9_4 12), .inr (0, [.ref ((A9_4 13)), .ref ((V9_4 6).1), .int (iI ((((m9_4 4) : Nat) : Int))), .int (iI ((((m9_4 5) : Nat) : Int)))])), cS G (A9_4 13) 4 (zsa (V9_4 2).1 (V9_4 3).1 (V9_4 4).1 (V9_4 5).1), ((V9_4 2).1, .inr (2, [.ref ((V9_4 2).2.1), .ref ((V9_4 2).2.2.1), .ref ((V9_4 2).2.2.2), .int (iI ((((U9_4 2).2.2.2.1 : Nat) : Int))), .int (iI ((((U9_4 2).2.2.2.2 : Nat) : Int)))])), cL G ((V9_4 2).2.1) 24 (zrw ((U9_4 2).1)), cI G ((V9_4 2).2.2.1) 37 ((U9_4 2).2.1), cI G ((V9_4 2).2.2.2) 5 ((U9_4 2).2.2.1), ((V9_4 3).1, .inr (2, [.ref ((V9_4 3).2.1), .ref ((V9_4 3).2.2.1), .ref ((V9_4 3).2.2.2), .int (iI ((((U9_4 3).2.2.2.1 : Nat) : Int))), .int (iI ((((U9_4 3).2.2.2.2 : Nat) : Int)))])), cL G ((V9_4 3).2.1) 24 (zrw ((U9_4 3).1)), cI G ((V9_4 3).2.2.1) 37 ((U9_4 3).2.1), cI G ((V9_4 3).2.2.2) 5 ((U9_4 3).2.2.1), ((V9_4 4).1, .inr (2, [.ref ((V9_4 4).2.1), .ref ((V9_4 4).2.2.1), .ref ((V9_4 4).2.2.2), .int (iI ((((U9_4 4).2.2.2.1 : Nat) : Int))), .int (iI ((((U9_4 4).2.2.2.2 : Nat) : Int)))])), cL G ((V9_4 4).2.1) 24 (zrw ((U9_4 4).1)), cI G ((V9_4 4).2.2.1) 37 ((U9_4 4).2.1), cI G ((V9_4 4).2.2.2) 5 ((U9_4 4).2.2.1), ((V9_4 5).1, .inr (2, [.ref ((V9_4 5).2.1), .ref ((V9_4 5).2.2.1), .ref ((V9_4 5).2.2.2), .int (iI ((((U9_4 5).2.2.2.1 : Nat) : Int))), .int (iI ((((U9_4 5).2.2.2.2 : Nat) : Int)))])), cL G ((V9_4 5).2.1) 24 (zrw ((U9_4 5).1)), cI G ((V9_4 5).2.2.1) 37 ((U9_4 5).2.1), cI G ((V9_4 5).2.2.2) 5 ((U9_4 5).2.2.1), ((V9_4 6).1, .inr (2, [.ref ((V9_4 6).2.1), .ref ((V9_4 6).2.2.1), .ref ((V9_4 6).2.2.2), .int (iI ((((U9_4 6).2.2.2.1 : Nat) : Int))), .int (iI ((((U9_4 6).2.2.2.2 : Nat) : Int)))])), cL G ((V9_4 6).2.1) 24 (zrw ((U9_4 6).1)), cI G ((V9_4 6).2.2.1) 37 ((U9_4 6).2.1), cI G ((V9_4 6).2.2.2) 5 ((U9_4 6).2.2.1), ((B9_12 0), .inr (5, [.ref ((B9_12 1)), .ref ((B9_12 2)), .int (iI (((zA0.2.1.length : Nat) : Int))), .ref ((B9_12 3)), .int (iI (((zA0.2.2.1 : Nat) : Int))), .ref ((B9_12 4)), .ref ((B9_12 5)), .int (iI (((zA0.2.2.2.2.2 : Nat) : Int))), .int (iI ((((j9_12 0) : Nat) : Int))), .int (iI ((((j9_12 1) : Nat) : Int))), .ref ((B9_12 6)), .ref ((B9_12 7)), .int (iI ((((j9_12 2) : Nat) : Int))), .int (iI ((((j9_12 3) : Nat) : Int))), .ref ((B9_12 8)), .ref ((B9_12 9)), .ref ((B9_12 10)), .ref ((B9_12 11)), .ref ((B9_12 12)), .int (iI ((((j9_12 4) : Nat) : Int)))])), cI G (B9_12 1) 1547 (J9_12 0), cI G (B9_12 2) 6188 (J9_12 1), cI G (B9_12 3) 1547 (J9_12 2), cI G (B9_12 4) 1547 (J9_12 3), cI G (B9_12 5) 60 zA0.2.2.2.2.1, cI G (B9_12 6) 30 (J9_12 4), cI G (B9_12 7) 30 (J9_12 5), cI G (B9_12 8) 64 (J9_12 6), cI G (B9_12 9) 64 (J9_12 7), cI G (B9_12 10) 64 (J9_12 8), cI G (B9_12 11) 64 (J9_12 9), cI G (B9_12 12) 64 (J9_12 10)]) [0, 1, 2, 3, 4, 5, 6, 7, 8, 9, 10, 11, 12, 13, 14, 15, 16, 17, 18, 19, 20, 21, 22, 23, 24, 25, 26, 27, 28, 29, 30, 31, 32, 33, 34, 35, 36, 37, 38, 39, 40, 41, 42, 43, 44, 45, 46, 47, 48, 49, 50, 51, 52, 53, 54] rfl rfl rfl (by decide) ?_
  subst h12_0
  refine z_astore_n (lv' := [(2, .ref ((B9_12 0))), (1, .ref ((A9_4 0))), (0, .ref b)]) (pc := 15) C dL_law_15 (by decide) rfl ?_
  refine z_iconst (pc := 16) C dL_law_16 ?_
  refine z_istore_n (lv' := [(3, .int (iI 0)), (2, .ref ((B9_12 0))), (1, .ref ((A9_4 0))), (0, .ref b)]) (pc := 17) C dL_law_17 (by decide) rfl ?_
  refine z_lv (lv' := [(0, .ref b), (1, .ref ((A9_4 0))), (2, .ref ((B9_12 0))), (3, .int (iI 0))]) [3, 2, 1, 0] rfl ?_
  exact law_loop C0 C S0 A9_4 B9_12 (L + 1) 0 V9_4 U9_4 N9_4 m9_4 T9_4 zA0 J9_12 j9_12 (by omega) (by omega) h4_1 h4_2 h12_1
