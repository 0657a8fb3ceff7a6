/-! THE TEXT, walked -/
theorem ffX3_length_22 : zFF wsX3_length RX3 22 RX3 TX3 5 3 := ⟨by decide +kernel, by decide, by decide +kernel⟩
set_option maxHeartbeats 4000000 in
set_option maxRecDepth 100000 in
theorem k_X3_length (l : Launch) (G : ZG) (x t1 t2 t3 : Nat) (T F R : Nat → Int) (n o : Nat) (hT : ∀ i, 0 ≤ T i ∧ T i < 65536) (hn60 : n ≤ 60) : Kt l G yX3_length wsX3_length { frames := 0, cells := 0, slots := 0, locals := 0 } 0 0 False [.ref x] [(x, .inr (3, [.ref t1, .ref t2, .ref t3, .int (iI ((n : Int))), .int (iI ((o : Int)))])), cC G t1 60 T, cI G t2 30 F, cI G t3 30 R] (fun v9 w9 => v9 = some (.int (iI ((n : Int)))) ∧ w9 = [(x, .inr (3, [.ref t1, .ref t2, .ref t3, .int (iI ((n : Int))), .int (iI ((o : Int)))])), cC G t1 60 T, cI G t2 30 F, cI G t3 30 R]) := by
  refine Kt.of (cc := cX3_length) (nL := 1) (ret := (some .int)) (own := RX3) rfl (by decide +kernel) rfl (Nat.le_of_ble_eq_true rfl) ?_
  intro X Y C R0 hin
  show Z l X G Y 1 0 0 0 [(0, .ref x)] [] [(x, .inr (3, [.ref t1, .ref t2, .ref t3, .int (iI ((n : Int))), .int (iI ((o : Int)))])), cC G t1 60 T, cI G t2 30 F, cI G t3 30 R]
  refine z_aload_n (pc := 0) C dX3_length_0 0 rfl ?_
  refine z_get (pc := 1) C dX3_length_1 zCl3 ffX3_length_22 0 rfl rfl ?_
  exact z_iret (pc := 4) C R0 dX3_length_4 (⟨rfl, rfl⟩)
