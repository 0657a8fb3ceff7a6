set_option maxRecDepth 20000 in
theorem ggX0_init_X2_init : GoodIn wsX0_init wsX2_init := goodIn_r _ [11, 12, 2, 3, 13, 14, 15, 16, 17, 18, 19, 20, 21, 22, 23, 24, 25, 26, 31, 32, 33, 34, 35] (by decide +kernel) (by decide +kernel)
set_option maxRecDepth 20000 in
theorem gX0_init_X2_init : GoodIn wsX0_init (wsX2_init) := ggX0_init_X2_init
theorem dX0_init_0 : decode cX0_init 0 = .ok (.aload_n 0, 1) := by decide +kernel
theorem dX0_init_1 : decode cX0_init 1 = .ok (.invokespecial 1, 3) := by decide +kernel
theorem dX0_init_4 : decode cX0_init 4 = .ok (.aload_n 0, 1) := by decide +kernel
theorem dX0_init_5 : decode cX0_init 5 = .ok (.iconst 4, 1) := by decide +kernel
theorem dX0_init_6 : decode cX0_init 6 = .ok (.anewarray 9, 3) := by decide +kernel
theorem dX0_init_9 : decode cX0_init 9 = .ok (.putfield 11, 3) := by decide +kernel
theorem dX0_init_12 : decode cX0_init 12 = .ok (.iconst 0, 1) := by decide +kernel
theorem dX0_init_13 : decode cX0_init 13 = .ok (.istore_n 1, 1) := by decide +kernel
theorem dX0_init_14 : decode cX0_init 14 = .ok (.iload_n 1, 1) := by decide +kernel
theorem dX0_init_15 : decode cX0_init 15 = .ok (.iconst 4, 1) := by decide +kernel
theorem dX0_init_16 : decode cX0_init 16 = .ok (.if_icmp .ge 22, 3) := by decide +kernel
theorem dX0_init_19 : decode cX0_init 19 = .ok (.aload_n 0, 1) := by decide +kernel
theorem dX0_init_20 : decode cX0_init 20 = .ok (.getfield 11, 3) := by decide +kernel
theorem dX0_init_23 : decode cX0_init 23 = .ok (.iload_n 1, 1) := by decide +kernel
theorem dX0_init_24 : decode cX0_init 24 = .ok (.new 9, 3) := by decide +kernel
theorem dX0_init_27 : decode cX0_init 27 = .ok (.dup, 1) := by decide +kernel
theorem dX0_init_28 : decode cX0_init 28 = .ok (.invokespecial 15, 3) := by decide +kernel
theorem dX0_init_31 : decode cX0_init 31 = .ok (.aastore, 1) := by decide +kernel
theorem dX0_init_32 : decode cX0_init 32 = .ok (.iinc 1 1, 3) := by decide +kernel
theorem dX0_init_35 : decode cX0_init 35 = .ok (.goto (-21), 3) := by decide +kernel
theorem dX0_init_38 : decode cX0_init 38 = .ok (.aload_n 0, 1) := by decide +kernel
theorem dX0_init_39 : decode cX0_init 39 = .ok (.new 9, 3) := by decide +kernel
theorem dX0_init_42 : decode cX0_init 42 = .ok (.dup, 1) := by decide +kernel
theorem dX0_init_43 : decode cX0_init 43 = .ok (.invokespecial 15, 3) := by decide +kernel
theorem dX0_init_46 : decode cX0_init 46 = .ok (.putfield 16, 3) := by decide +kernel
theorem dX0_init_49 : decode cX0_init 49 = .ok (.return_, 1) := by decide +kernel
theorem dX0_size_0 : decode cX0_size 0 = .ok (.aload_n 0, 1) := by decide +kernel
theorem dX0_size_1 : decode cX0_size 1 = .ok (.getfield 20, 3) := by decide +kernel
theorem dX0_size_4 : decode cX0_size 4 = .ok (.ireturn, 1) := by decide +kernel
set_option maxRecDepth 20000 in
theorem ggX0_remember_X0_dropOldest : GoodIn wsX0_remember wsX0_dropOldest := goodIn_r _ [7, 2, 1, 22, 23, 24, 25] (by decide +kernel) (by decide +kernel)
set_option maxRecDepth 20000 in
theorem gX0_remember_X0_dropOldest : GoodIn wsX0_remember (wsV RX0 28 RX0 yX0_dropOldest wsX0_dropOldest) := goodIn_app (goodIn_of _ (by decide +kernel)) ggX0_remember_X0_dropOldest
set_option maxRecDepth 20000 in
theorem ggX0_remember_X2_copyFrom : GoodIn wsX0_remember wsX2_copyFrom := goodIn_r _ [12, 13, 14, 15, 16, 17, 18, 19, 20, 21, 26, 27, 28, 29, 30] (by decide +kernel) (by decide +kernel)
set_option maxRecDepth 20000 in
theorem gX0_remember_X2_copyFrom : GoodIn wsX0_remember (wsV RX0 31 RX2 yX2_copyFrom wsX2_copyFrom) := goodIn_app (goodIn_of _ (by decide +kernel)) ggX0_remember_X2_copyFrom
theorem dX0_remember_0 : decode cX0_remember 0 = .ok (.aload_n 0, 1) := by decide +kernel
theorem dX0_remember_1 : decode cX0_remember 1 = .ok (.getfield 20, 3) := by decide +kernel
theorem dX0_remember_4 : decode cX0_remember 4 = .ok (.iconst 4, 1) := by decide +kernel
theorem dX0_remember_5 : decode cX0_remember 5 = .ok (.if_icmp .lt 7, 3) := by decide +kernel
theorem dX0_remember_8 : decode cX0_remember 8 = .ok (.aload_n 0, 1) := by decide +kernel
theorem dX0_remember_9 : decode cX0_remember 9 = .ok (.invokevirtual 28, 3) := by decide +kernel
theorem dX0_remember_12 : decode cX0_remember 12 = .ok (.aload_n 0, 1) := by decide +kernel
theorem dX0_remember_13 : decode cX0_remember 13 = .ok (.getfield 11, 3) := by decide +kernel
theorem dX0_remember_16 : decode cX0_remember 16 = .ok (.aload_n 0, 1) := by decide +kernel
theorem dX0_remember_17 : decode cX0_remember 17 = .ok (.getfield 20, 3) := by decide +kernel
theorem dX0_remember_20 : decode cX0_remember 20 = .ok (.aaload, 1) := by decide +kernel
theorem dX0_remember_21 : decode cX0_remember 21 = .ok (.aload_n 1, 1) := by decide +kernel
theorem dX0_remember_22 : decode cX0_remember 22 = .ok (.invokevirtual 31, 3) := by decide +kernel
theorem dX0_remember_25 : decode cX0_remember 25 = .ok (.aload_n 0, 1) := by decide +kernel
theorem dX0_remember_26 : decode cX0_remember 26 = .ok (.dup, 1) := by decide +kernel
theorem dX0_remember_27 : decode cX0_remember 27 = .ok (.getfield 20, 3) := by decide +kernel
theorem dX0_remember_30 : decode cX0_remember 30 = .ok (.iconst 1, 1) := by decide +kernel
theorem dX0_remember_31 : decode cX0_remember 31 = .ok (.iadd, 1) := by decide +kernel
theorem dX0_remember_32 : decode cX0_remember 32 = .ok (.putfield 20, 3) := by decide +kernel
theorem dX0_remember_35 : decode cX0_remember 35 = .ok (.return_, 1) := by decide +kernel
set_option maxRecDepth 20000 in
theorem ggX0_takeBack_X2_copyFrom : GoodIn wsX0_takeBack wsX2_copyFrom := goodIn_r _ [7, 8, 9, 10, 11, 12, 13, 14, 15, 16, 21, 22, 23, 24, 25] (by decide +kernel) (by decide +kernel)
set_option maxRecDepth 20000 in
theorem gX0_takeBack_X2_copyFrom : GoodIn wsX0_takeBack (wsV RX0 31 RX2 yX2_copyFrom wsX2_copyFrom) := goodIn_app (goodIn_of _ (by decide +kernel)) ggX0_takeBack_X2_copyFrom
theorem dX0_takeBack_0 : decode cX0_takeBack 0 = .ok (.aload_n 0, 1) := by decide +kernel
theorem dX0_takeBack_1 : decode cX0_takeBack 1 = .ok (.getfield 20, 3) := by decide +kernel
theorem dX0_takeBack_4 : decode cX0_takeBack 4 = .ok (.iconst 1, 1) := by decide +kernel
theorem dX0_takeBack_5 : decode cX0_takeBack 5 = .ok (.if_icmp .lt 11, 3) := by decide +kernel
theorem dX0_takeBack_8 : decode cX0_takeBack 8 = .ok (.aload_n 0, 1) := by decide +kernel
theorem dX0_takeBack_9 : decode cX0_takeBack 9 = .ok (.getfield 20, 3) := by decide +kernel
theorem dX0_takeBack_12 : decode cX0_takeBack 12 = .ok (.iconst 4, 1) := by decide +kernel
theorem dX0_takeBack_13 : decode cX0_takeBack 13 = .ok (.if_icmp .le 5, 3) := by decide +kernel
theorem dX0_takeBack_16 : decode cX0_takeBack 16 = .ok (.iconst 0, 1) := by decide +kernel
theorem dX0_takeBack_17 : decode cX0_takeBack 17 = .ok (.ireturn, 1) := by decide +kernel
theorem dX0_takeBack_18 : decode cX0_takeBack 18 = .ok (.aload_n 0, 1) := by decide +kernel
theorem dX0_takeBack_19 : decode cX0_takeBack 19 = .ok (.dup, 1) := by decide +kernel
theorem dX0_takeBack_20 : decode cX0_takeBack 20 = .ok (.getfield 20, 3) := by decide +kernel
theorem dX0_takeBack_23 : decode cX0_takeBack 23 = .ok (.iconst 1, 1) := by decide +kernel
theorem dX0_takeBack_24 : decode cX0_takeBack 24 = .ok (.isub, 1) := by decide +kernel
theorem dX0_takeBack_25 : decode cX0_takeBack 25 = .ok (.putfield 20, 3) := by decide +kernel
theorem dX0_takeBack_28 : decode cX0_takeBack 28 = .ok (.aload_n 1, 1) := by decide +kernel
theorem dX0_takeBack_29 : decode cX0_takeBack 29 = .ok (.aload_n 0, 1) := by decide +kernel
theorem dX0_takeBack_30 : decode cX0_takeBack 30 = .ok (.getfield 11, 3) := by decide +kernel
theorem dX0_takeBack_33 : decode cX0_takeBack 33 = .ok (.aload_n 0, 1) := by decide +kernel
theorem dX0_takeBack_34 : decode cX0_takeBack 34 = .ok (.getfield 20, 3) := by decide +kernel
theorem dX0_takeBack_37 : decode cX0_takeBack 37 = .ok (.aaload, 1) := by decide +kernel
theorem dX0_takeBack_38 : decode cX0_takeBack 38 = .ok (.invokevirtual 31, 3) := by decide +kernel
theorem dX0_takeBack_41 : decode cX0_takeBack 41 = .ok (.iconst 1, 1) := by decide +kernel
theorem dX0_takeBack_42 : decode cX0_takeBack 42 = .ok (.ireturn, 1) := by decide +kernel
theorem dX0_dropOldest_0 : decode cX0_dropOldest 0 = .ok (.aload_n 0, 1) := by decide +kernel
theorem dX0_dropOldest_1 : decode cX0_dropOldest 1 = .ok (.getfield 11, 3) := by decide +kernel
theorem dX0_dropOldest_4 : decode cX0_dropOldest 4 = .ok (.iconst 0, 1) := by decide +kernel
theorem dX0_dropOldest_5 : decode cX0_dropOldest 5 = .ok (.aaload, 1) := by decide +kernel
theorem dX0_dropOldest_6 : decode cX0_dropOldest 6 = .ok (.astore_n 1, 1) := by decide +kernel
theorem dX0_dropOldest_7 : decode cX0_dropOldest 7 = .ok (.iconst 1, 1) := by decide +kernel
theorem dX0_dropOldest_8 : decode cX0_dropOldest 8 = .ok (.istore_n 2, 1) := by decide +kernel
theorem dX0_dropOldest_9 : decode cX0_dropOldest 9 = .ok (.iload_n 2, 1) := by decide +kernel
theorem dX0_dropOldest_10 : decode cX0_dropOldest 10 = .ok (.iconst 4, 1) := by decide +kernel
theorem dX0_dropOldest_11 : decode cX0_dropOldest 11 = .ok (.if_icmp .ge 23, 3) := by decide +kernel
theorem dX0_dropOldest_14 : decode cX0_dropOldest 14 = .ok (.aload_n 0, 1) := by decide +kernel
theorem dX0_dropOldest_15 : decode cX0_dropOldest 15 = .ok (.getfield 11, 3) := by decide +kernel
theorem dX0_dropOldest_18 : decode cX0_dropOldest 18 = .ok (.iload_n 2, 1) := by decide +kernel
theorem dX0_dropOldest_19 : decode cX0_dropOldest 19 = .ok (.iconst 1, 1) := by decide +kernel
theorem dX0_dropOldest_20 : decode cX0_dropOldest 20 = .ok (.isub, 1) := by decide +kernel
theorem dX0_dropOldest_21 : decode cX0_dropOldest 21 = .ok (.aload_n 0, 1) := by decide +kernel
theorem dX0_dropOldest_22 : decode cX0_dropOldest 22 = .ok (.getfield 11, 3) := by decide +kernel
theorem dX0_dropOldest_25 : decode cX0_dropOldest 25 = .ok (.iload_n 2, 1) := by decide +kernel
theorem dX0_dropOldest_26 : decode cX0_dropOldest 26 = .ok (.aaload, 1) := by decide +kernel
theorem dX0_dropOldest_27 : decode cX0_dropOldest 27 = .ok (.aastore, 1) := by decide +kernel
theorem dX0_dropOldest_28 : decode cX0_dropOldest 28 = .ok (.iinc 2 1, 3) := by decide +kernel
theorem dX0_dropOldest_31 : decode cX0_dropOldest 31 = .ok (.goto (-22), 3) := by decide +kernel
theorem dX0_dropOldest_34 : decode cX0_dropOldest 34 = .ok (.aload_n 0, 1) := by decide +kernel
theorem dX0_dropOldest_35 : decode cX0_dropOldest 35 = .ok (.getfield 11, 3) := by decide +kernel
theorem dX0_dropOldest_38 : decode cX0_dropOldest 38 = .ok (.iconst 3, 1) := by decide +kernel
theorem dX0_dropOldest_39 : decode cX0_dropOldest 39 = .ok (.aload_n 1, 1) := by decide +kernel
theorem dX0_dropOldest_40 : decode cX0_dropOldest 40 = .ok (.aastore, 1) := by decide +kernel
theorem dX0_dropOldest_41 : decode cX0_dropOldest 41 = .ok (.aload_n 0, 1) := by decide +kernel
theorem dX0_dropOldest_42 : decode cX0_dropOldest 42 = .ok (.dup, 1) := by decide +kernel
theorem dX0_dropOldest_43 : decode cX0_dropOldest 43 = .ok (.getfield 20, 3) := by decide +kernel
theorem dX0_dropOldest_46 : decode cX0_dropOldest 46 = .ok (.iconst 1, 1) := by decide +kernel
theorem dX0_dropOldest_47 : decode cX0_dropOldest 47 = .ok (.isub, 1) := by decide +kernel
theorem dX0_dropOldest_48 : decode cX0_dropOldest 48 = .ok (.putfield 20, 3) := by decide +kernel
theorem dX0_dropOldest_51 : decode cX0_dropOldest 51 = .ok (.return_, 1) := by decide +kernel
theorem dX1_init_0 : decode cX1_init 0 = .ok (.aload_n 0, 1) := by decide +kernel
theorem dX1_init_1 : decode cX1_init 1 = .ok (.invokespecial 3, 3) := by decide +kernel
theorem dX1_init_4 : decode cX1_init 4 = .ok (.aload_n 0, 1) := by decide +kernel
theorem dX1_init_5 : decode cX1_init 5 = .ok (.iconst 5, 1) := by decide +kernel
theorem dX1_init_6 : decode cX1_init 6 = .ok (.bipush 39, 2) := by decide +kernel
theorem dX1_init_8 : decode cX1_init 8 = .ok (.multianewarray 11 2, 4) := by decide +kernel
theorem dX1_init_12 : decode cX1_init 12 = .ok (.putfield 13, 3) := by decide +kernel
theorem dX1_init_15 : decode cX1_init 15 = .ok (.return_, 1) := by decide +kernel
set_option maxRecDepth 20000 in
theorem ggX1_receive_X2_nextFall : GoodIn wsX1_receive wsX2_nextFall := goodIn_r _ [7, 8, 9, 10, 11, 12, 13, 14, 15, 16, 6, 17, 18, 19, 20, 21, 22, 23, 24, 25, 77, 78, 79, 80, 81] (by decide +kernel) (by decide +kernel)
set_option maxRecDepth 20000 in
theorem gX1_receive_X2_nextFall : GoodIn wsX1_receive (wsV RX1 23 RX2 yX2_nextFall wsX2_nextFall) := goodIn_app (goodIn_of _ (by decide +kernel)) ggX1_receive_X2_nextFall
set_option maxRecDepth 20000 in
theorem ggX1_receive_X2_end : GoodIn wsX1_receive wsX2_end := goodIn_r _ [29, 13, 77, 78, 79, 80, 81] (by decide +kernel) (by decide +kernel)
set_option maxRecDepth 20000 in
theorem gX1_receive_X2_end : GoodIn wsX1_receive (wsV RX1 29 RX2 yX2_end wsX2_end) := goodIn_app (goodIn_of _ (by decide +kernel)) ggX1_receive_X2_end
set_option maxRecDepth 20000 in
theorem ggX1_receive_X1_tellFrom : GoodIn wsX1_receive wsX1_tellFrom := goodIn_r _ [34, 35, 2, 36, 37, 38, 33, 39, 40, 41, 42, 6, 43, 13, 18, 44, 45, 46, 47, 48, 49, 50, 51, 52, 53, 54, 55, 56, 57, 58, 59, 60, 61, 62, 63, 64, 65, 66, 67, 68, 69, 70, 71, 1, 72, 73, 74, 75, 76, 77, 78, 79, 80, 81] (by decide +kernel) (by decide +kernel)
set_option maxRecDepth 20000 in
theorem gX1_receive_X1_tellFrom : GoodIn wsX1_receive (wsV RX1 33 RX1 yX1_tellFrom wsX1_tellFrom) := goodIn_app (goodIn_of _ (by decide +kernel)) ggX1_receive_X1_tellFrom
theorem dX1_receive_0 : decode cX1_receive 0 = .ok (.aload_n 0, 1) := by decide +kernel
theorem dX1_receive_1 : decode cX1_receive 1 = .ok (.iconst 0, 1) := by decide +kernel
theorem dX1_receive_2 : decode cX1_receive 2 = .ok (.putfield 16, 3) := by decide +kernel
theorem dX1_receive_5 : decode cX1_receive 5 = .ok (.aload_n 0, 1) := by decide +kernel
theorem dX1_receive_6 : decode cX1_receive 6 = .ok (.iconst 0, 1) := by decide +kernel
theorem dX1_receive_7 : decode cX1_receive 7 = .ok (.putfield 20, 3) := by decide +kernel
theorem dX1_receive_10 : decode cX1_receive 10 = .ok (.aload_n 1, 1) := by decide +kernel
theorem dX1_receive_11 : decode cX1_receive 11 = .ok (.iconst 0, 1) := by decide +kernel
theorem dX1_receive_12 : decode cX1_receive 12 = .ok (.invokevirtual 23, 3) := by decide +kernel
theorem dX1_receive_15 : decode cX1_receive 15 = .ok (.istore_n 3, 1) := by decide +kernel
theorem dX1_receive_16 : decode cX1_receive 16 = .ok (.iconst 0, 1) := by decide +kernel
theorem dX1_receive_17 : decode cX1_receive 17 = .ok (.istore 4, 2) := by decide +kernel
theorem dX1_receive_19 : decode cX1_receive 19 = .ok (.iload 4, 2) := by decide +kernel
theorem dX1_receive_21 : decode cX1_receive 21 = .ok (.sipush 1500, 3) := by decide +kernel
theorem dX1_receive_24 : decode cX1_receive 24 = .ok (.if_icmp .ge 29, 3) := by decide +kernel
theorem dX1_receive_27 : decode cX1_receive 27 = .ok (.iload_n 3, 1) := by decide +kernel
theorem dX1_receive_28 : decode cX1_receive 28 = .ok (.aload_n 1, 1) := by decide +kernel
theorem dX1_receive_29 : decode cX1_receive 29 = .ok (.invokevirtual 29, 3) := by decide +kernel
theorem dX1_receive_32 : decode cX1_receive 32 = .ok (.if_icmp .ge 21, 3) := by decide +kernel
theorem dX1_receive_35 : decode cX1_receive 35 = .ok (.aload_n 1, 1) := by decide +kernel
theorem dX1_receive_36 : decode cX1_receive 36 = .ok (.aload_n 0, 1) := by decide +kernel
theorem dX1_receive_37 : decode cX1_receive 37 = .ok (.aload_n 1, 1) := by decide +kernel
theorem dX1_receive_38 : decode cX1_receive 38 = .ok (.iload_n 3, 1) := by decide +kernel
theorem dX1_receive_39 : decode cX1_receive 39 = .ok (.iload_n 2, 1) := by decide +kernel
theorem dX1_receive_40 : decode cX1_receive 40 = .ok (.invokevirtual 33, 3) := by decide +kernel
theorem dX1_receive_43 : decode cX1_receive 43 = .ok (.invokevirtual 23, 3) := by decide +kernel
theorem dX1_receive_46 : decode cX1_receive 46 = .ok (.istore_n 3, 1) := by decide +kernel
theorem dX1_receive_47 : decode cX1_receive 47 = .ok (.iinc 4 1, 3) := by decide +kernel
theorem dX1_receive_50 : decode cX1_receive 50 = .ok (.goto (-31), 3) := by decide +kernel
theorem dX1_receive_53 : decode cX1_receive 53 = .ok (.return_, 1) := by decide +kernel
theorem dX1_count_0 : decode cX1_count 0 = .ok (.aload_n 0, 1) := by decide +kernel
theorem dX1_count_1 : decode cX1_count 1 = .ok (.getfield 16, 3) := by decide +kernel
theorem dX1_count_4 : decode cX1_count 4 = .ok (.ireturn, 1) := by decide +kernel
theorem dX1_falseStarts_0 : decode cX1_falseStarts 0 = .ok (.aload_n 0, 1) := by decide +kernel
theorem dX1_falseStarts_1 : decode cX1_falseStarts 1 = .ok (.getfield 20, 3) := by decide +kernel
theorem dX1_falseStarts_4 : decode cX1_falseStarts 4 = .ok (.ireturn, 1) := by decide +kernel
theorem dX1_note_0 : decode cX1_note 0 = .ok (.iload_n 1, 1) := by decide +kernel
theorem dX1_note_1 : decode cX1_note 1 = .ok (.ifCond .lt 20, 3) := by decide +kernel
theorem dX1_note_4 : decode cX1_note 4 = .ok (.iload_n 1, 1) := by decide +kernel
theorem dX1_note_5 : decode cX1_note 5 = .ok (.aload_n 0, 1) := by decide +kernel
theorem dX1_note_6 : decode cX1_note 6 = .ok (.getfield 16, 3) := by decide +kernel
theorem dX1_note_9 : decode cX1_note 9 = .ok (.if_icmp .ge 12, 3) := by decide +kernel
theorem dX1_note_12 : decode cX1_note 12 = .ok (.iload_n 2, 1) := by decide +kernel
theorem dX1_note_13 : decode cX1_note 13 = .ok (.ifCond .lt 8, 3) := by decide +kernel
theorem dX1_note_16 : decode cX1_note 16 = .ok (.iload_n 2, 1) := by decide +kernel
theorem dX1_note_17 : decode cX1_note 17 = .ok (.iconst 5, 1) := by decide +kernel
theorem dX1_note_18 : decode cX1_note 18 = .ok (.if_icmp .lt 6, 3) := by decide +kernel
theorem dX1_note_21 : decode cX1_note 21 = .ok (.bipush (-5), 2) := by decide +kernel
theorem dX1_note_23 : decode cX1_note 23 = .ok (.ireturn, 1) := by decide +kernel
theorem dX1_note_24 : decode cX1_note 24 = .ok (.aload_n 0, 1) := by decide +kernel
theorem dX1_note_25 : decode cX1_note 25 = .ok (.getfield 13, 3) := by decide +kernel
theorem dX1_note_28 : decode cX1_note 28 = .ok (.iload_n 2, 1) := by decide +kernel
theorem dX1_note_29 : decode cX1_note 29 = .ok (.aaload, 1) := by decide +kernel
theorem dX1_note_30 : decode cX1_note 30 = .ok (.iload_n 1, 1) := by decide +kernel
theorem dX1_note_31 : decode cX1_note 31 = .ok (.iaload, 1) := by decide +kernel
theorem dX1_note_32 : decode cX1_note 32 = .ok (.ireturn, 1) := by decide +kernel
set_option maxRecDepth 20000 in
theorem ggX1_countKind_X1_note : GoodIn wsX1_countKind wsX1_note := goodIn_r _ [6, 1, 7, 8, 9, 10, 11] (by decide +kernel) (by decide +kernel)
set_option maxRecDepth 20000 in
theorem gX1_countKind_X1_note : GoodIn wsX1_countKind (wsV RX1 37 RX1 yX1_note wsX1_note) := goodIn_app (goodIn_of _ (by decide +kernel)) ggX1_countKind_X1_note
theorem dX1_countKind_0 : decode cX1_countKind 0 = .ok (.iconst 0, 1) := by decide +kernel
theorem dX1_countKind_1 : decode cX1_countKind 1 = .ok (.istore_n 2, 1) := by decide +kernel
theorem dX1_countKind_2 : decode cX1_countKind 2 = .ok (.iconst 0, 1) := by decide +kernel
theorem dX1_countKind_3 : decode cX1_countKind 3 = .ok (.istore_n 3, 1) := by decide +kernel
theorem dX1_countKind_4 : decode cX1_countKind 4 = .ok (.iload_n 3, 1) := by decide +kernel
theorem dX1_countKind_5 : decode cX1_countKind 5 = .ok (.aload_n 0, 1) := by decide +kernel
theorem dX1_countKind_6 : decode cX1_countKind 6 = .ok (.getfield 16, 3) := by decide +kernel
theorem dX1_countKind_9 : decode cX1_countKind 9 = .ok (.if_icmp .ge 22, 3) := by decide +kernel
theorem dX1_countKind_12 : decode cX1_countKind 12 = .ok (.aload_n 0, 1) := by decide +kernel
theorem dX1_countKind_13 : decode cX1_countKind 13 = .ok (.iload_n 3, 1) := by decide +kernel
theorem dX1_countKind_14 : decode cX1_countKind 14 = .ok (.iconst 0, 1) := by decide +kernel
theorem dX1_countKind_15 : decode cX1_countKind 15 = .ok (.invokevirtual 37, 3) := by decide +kernel
theorem dX1_countKind_18 : decode cX1_countKind 18 = .ok (.iload_n 1, 1) := by decide +kernel
theorem dX1_countKind_19 : decode cX1_countKind 19 = .ok (.if_icmp .ne 6, 3) := by decide +kernel
theorem dX1_countKind_22 : decode cX1_countKind 22 = .ok (.iinc 2 1, 3) := by decide +kernel
theorem dX1_countKind_25 : decode cX1_countKind 25 = .ok (.iinc 3 1, 3) := by decide +kernel
theorem dX1_countKind_28 : decode cX1_countKind 28 = .ok (.goto (-24), 3) := by decide +kernel
theorem dX1_countKind_31 : decode cX1_countKind 31 = .ok (.iload_n 2, 1) := by decide +kernel
theorem dX1_countKind_32 : decode cX1_countKind 32 = .ok (.ireturn, 1) := by decide +kernel
set_option maxRecDepth 20000 in
theorem ggX1_countDoubtful_X1_note : GoodIn wsX1_countDoubtful wsX1_note := goodIn_r _ [6, 1, 7, 8, 9, 10, 11] (by decide +kernel) (by decide +kernel)
set_option maxRecDepth 20000 in
theorem gX1_countDoubtful_X1_note : GoodIn wsX1_countDoubtful (wsV RX1 37 RX1 yX1_note wsX1_note) := goodIn_app (goodIn_of _ (by decide +kernel)) ggX1_countDoubtful_X1_note
theorem dX1_countDoubtful_0 : decode cX1_countDoubtful 0 = .ok (.iconst 0, 1) := by decide +kernel
theorem dX1_countDoubtful_1 : decode cX1_countDoubtful 1 = .ok (.istore_n 1, 1) := by decide +kernel
theorem dX1_countDoubtful_2 : decode cX1_countDoubtful 2 = .ok (.iconst 0, 1) := by decide +kernel
theorem dX1_countDoubtful_3 : decode cX1_countDoubtful 3 = .ok (.istore_n 2, 1) := by decide +kernel
theorem dX1_countDoubtful_4 : decode cX1_countDoubtful 4 = .ok (.iload_n 2, 1) := by decide +kernel
theorem dX1_countDoubtful_5 : decode cX1_countDoubtful 5 = .ok (.aload_n 0, 1) := by decide +kernel
theorem dX1_countDoubtful_6 : decode cX1_countDoubtful 6 = .ok (.getfield 16, 3) := by decide +kernel
theorem dX1_countDoubtful_9 : decode cX1_countDoubtful 9 = .ok (.if_icmp .ge 18, 3) := by decide +kernel
theorem dX1_countDoubtful_12 : decode cX1_countDoubtful 12 = .ok (.iload_n 1, 1) := by decide +kernel
theorem dX1_countDoubtful_13 : decode cX1_countDoubtful 13 = .ok (.aload_n 0, 1) := by decide +kernel
theorem dX1_countDoubtful_14 : decode cX1_countDoubtful 14 = .ok (.iload_n 2, 1) := by decide +kernel
theorem dX1_countDoubtful_15 : decode cX1_countDoubtful 15 = .ok (.iconst 3, 1) := by decide +kernel
theorem dX1_countDoubtful_16 : decode cX1_countDoubtful 16 = .ok (.invokevirtual 37, 3) := by decide +kernel
theorem dX1_countDoubtful_19 : decode cX1_countDoubtful 19 = .ok (.iadd, 1) := by decide +kernel
theorem dX1_countDoubtful_20 : decode cX1_countDoubtful 20 = .ok (.istore_n 1, 1) := by decide +kernel
theorem dX1_countDoubtful_21 : decode cX1_countDoubtful 21 = .ok (.iinc 2 1, 3) := by decide +kernel
theorem dX1_countDoubtful_24 : decode cX1_countDoubtful 24 = .ok (.goto (-20), 3) := by decide +kernel
theorem dX1_countDoubtful_27 : decode cX1_countDoubtful 27 = .ok (.iload_n 1, 1) := by decide +kernel
theorem dX1_countDoubtful_28 : decode cX1_countDoubtful 28 = .ok (.ireturn, 1) := by decide +kernel
set_option maxRecDepth 20000 in
theorem ggX1_isAllWell_X2_wordCount : GoodIn wsX1_isAllWell wsX2_wordCount := goodIn_r _ [6, 7, 27, 28, 29, 30, 31] (by decide +kernel) (by decide +kernel)
set_option maxRecDepth 20000 in
theorem gX1_isAllWell_X2_wordCount : GoodIn wsX1_isAllWell (wsV RX1 45 RX2 yX2_wordCount wsX2_wordCount) := goodIn_app (goodIn_of _ (by decide +kernel)) ggX1_isAllWell_X2_wordCount
set_option maxRecDepth 20000 in
theorem ggX1_isAllWell_X2_wordOfRank : GoodIn wsX1_isAllWell wsX2_wordOfRank := goodIn_r _ [11, 7, 12, 27, 28, 29, 30, 31] (by decide +kernel) (by decide +kernel)
set_option maxRecDepth 20000 in
theorem gX1_isAllWell_X2_wordOfRank : GoodIn wsX1_isAllWell (wsV RX1 48 RX2 yX2_wordOfRank wsX2_wordOfRank) := goodIn_app (goodIn_of _ (by decide +kernel)) ggX1_isAllWell_X2_wordOfRank
set_option maxRecDepth 20000 in
theorem ggX1_isAllWell_X1_isGoodWord : GoodIn wsX1_isAllWell wsX1_isGoodWord := goodIn_r _ [17, 18, 19, 20, 16, 21, 1, 22, 23, 24, 25, 26] (by decide +kernel) (by decide +kernel)
set_option maxRecDepth 20000 in
theorem gX1_isAllWell_X1_isGoodWord : GoodIn wsX1_isAllWell (wsV RX1 41 RX1 yX1_isGoodWord wsX1_isGoodWord) := goodIn_app (goodIn_of _ (by decide +kernel)) ggX1_isAllWell_X1_isGoodWord
theorem dX1_isAllWell_0 : decode cX1_isAllWell 0 = .ok (.aload_n 0, 1) := by decide +kernel
theorem dX1_isAllWell_1 : decode cX1_isAllWell 1 = .ok (.getfield 16, 3) := by decide +kernel
theorem dX1_isAllWell_4 : decode cX1_isAllWell 4 = .ok (.aload_n 1, 1) := by decide +kernel
theorem dX1_isAllWell_5 : decode cX1_isAllWell 5 = .ok (.invokevirtual 45, 3) := by decide +kernel
theorem dX1_isAllWell_8 : decode cX1_isAllWell 8 = .ok (.if_icmp .eq 5, 3) := by decide +kernel
theorem dX1_isAllWell_11 : decode cX1_isAllWell 11 = .ok (.iconst 0, 1) := by decide +kernel
theorem dX1_isAllWell_12 : decode cX1_isAllWell 12 = .ok (.ireturn, 1) := by decide +kernel
theorem dX1_isAllWell_13 : decode cX1_isAllWell 13 = .ok (.iconst 0, 1) := by decide +kernel
theorem dX1_isAllWell_14 : decode cX1_isAllWell 14 = .ok (.istore_n 2, 1) := by decide +kernel
theorem dX1_isAllWell_15 : decode cX1_isAllWell 15 = .ok (.iload_n 2, 1) := by decide +kernel
theorem dX1_isAllWell_16 : decode cX1_isAllWell 16 = .ok (.aload_n 0, 1) := by decide +kernel
theorem dX1_isAllWell_17 : decode cX1_isAllWell 17 = .ok (.getfield 16, 3) := by decide +kernel
theorem dX1_isAllWell_20 : decode cX1_isAllWell 20 = .ok (.if_icmp .ge 24, 3) := by decide +kernel
theorem dX1_isAllWell_23 : decode cX1_isAllWell 23 = .ok (.aload_n 0, 1) := by decide +kernel
theorem dX1_isAllWell_24 : decode cX1_isAllWell 24 = .ok (.iload_n 2, 1) := by decide +kernel
theorem dX1_isAllWell_25 : decode cX1_isAllWell 25 = .ok (.aload_n 1, 1) := by decide +kernel
theorem dX1_isAllWell_26 : decode cX1_isAllWell 26 = .ok (.iload_n 2, 1) := by decide +kernel
theorem dX1_isAllWell_27 : decode cX1_isAllWell 27 = .ok (.invokevirtual 48, 3) := by decide +kernel
theorem dX1_isAllWell_30 : decode cX1_isAllWell 30 = .ok (.invokevirtual 41, 3) := by decide +kernel
theorem dX1_isAllWell_33 : decode cX1_isAllWell 33 = .ok (.ifCond .ne 5, 3) := by decide +kernel
theorem dX1_isAllWell_36 : decode cX1_isAllWell 36 = .ok (.iconst 0, 1) := by decide +kernel
theorem dX1_isAllWell_37 : decode cX1_isAllWell 37 = .ok (.ireturn, 1) := by decide +kernel
theorem dX1_isAllWell_38 : decode cX1_isAllWell 38 = .ok (.iinc 2 1, 3) := by decide +kernel
theorem dX1_isAllWell_41 : decode cX1_isAllWell 41 = .ok (.goto (-26), 3) := by decide +kernel
theorem dX1_isAllWell_44 : decode cX1_isAllWell 44 = .ok (.iconst 1, 1) := by decide +kernel
theorem dX1_isAllWell_45 : decode cX1_isAllWell 45 = .ok (.ireturn, 1) := by decide +kernel
set_option maxRecDepth 20000 in
theorem ggX1_isGoodWord_X1_note : GoodIn wsX1_isGoodWord wsX1_note := goodIn_r _ [5, 6, 7, 8, 9, 10, 11] (by decide +kernel) (by decide +kernel)
set_option maxRecDepth 20000 in
theorem gX1_isGoodWord_X1_note : GoodIn wsX1_isGoodWord (wsV RX1 37 RX1 yX1_note wsX1_note) := goodIn_app (goodIn_of _ (by decide +kernel)) ggX1_isGoodWord_X1_note
theorem dX1_isGoodWord_0 : decode cX1_isGoodWord 0 = .ok (.aload_n 0, 1) := by decide +kernel
theorem dX1_isGoodWord_1 : decode cX1_isGoodWord 1 = .ok (.iload_n 1, 1) := by decide +kernel
theorem dX1_isGoodWord_2 : decode cX1_isGoodWord 2 = .ok (.iconst 0, 1) := by decide +kernel
theorem dX1_isGoodWord_3 : decode cX1_isGoodWord 3 = .ok (.invokevirtual 37, 3) := by decide +kernel
theorem dX1_isGoodWord_6 : decode cX1_isGoodWord 6 = .ok (.ifCond .ne 17, 3) := by decide +kernel
theorem dX1_isGoodWord_9 : decode cX1_isGoodWord 9 = .ok (.aload_n 0, 1) := by decide +kernel
theorem dX1_isGoodWord_10 : decode cX1_isGoodWord 10 = .ok (.iload_n 1, 1) := by decide +kernel
theorem dX1_isGoodWord_11 : decode cX1_isGoodWord 11 = .ok (.iconst 1, 1) := by decide +kernel
theorem dX1_isGoodWord_12 : decode cX1_isGoodWord 12 = .ok (.invokevirtual 37, 3) := by decide +kernel
theorem dX1_isGoodWord_15 : decode cX1_isGoodWord 15 = .ok (.iload_n 2, 1) := by decide +kernel
theorem dX1_isGoodWord_16 : decode cX1_isGoodWord 16 = .ok (.if_icmp .ne 7, 3) := by decide +kernel
theorem dX1_isGoodWord_19 : decode cX1_isGoodWord 19 = .ok (.iconst 1, 1) := by decide +kernel
theorem dX1_isGoodWord_20 : decode cX1_isGoodWord 20 = .ok (.goto 4, 3) := by decide +kernel
theorem dX1_isGoodWord_23 : decode cX1_isGoodWord 23 = .ok (.iconst 0, 1) := by decide +kernel
theorem dX1_isGoodWord_24 : decode cX1_isGoodWord 24 = .ok (.ireturn, 1) := by decide +kernel
set_option maxRecDepth 20000 in
theorem ggX1_tellFrom_X1_tellBit : GoodIn wsX1_tellFrom wsX1_tellBit := goodIn_r _ [7, 1, 8, 9, 10, 11, 12, 13, 14, 15, 16, 6, 17, 18, 19, 20, 21, 22, 45, 46, 47, 48, 49, 50, 51, 52, 53] (by decide +kernel) (by decide +kernel)
set_option maxRecDepth 20000 in
theorem gX1_tellFrom_X1_tellBit : GoodIn wsX1_tellFrom (wsV RX1 54 RX1 yX1_tellBit wsX1_tellBit) := goodIn_app (goodIn_of _ (by decide +kernel)) ggX1_tellFrom_X1_tellBit
set_option maxRecDepth 20000 in
theorem ggX1_tellFrom_X1_thirdLook : GoodIn wsX1_tellFrom wsX1_thirdLook := goodIn_r _ [17] (by decide +kernel) (by decide +kernel)
set_option maxRecDepth 20000 in
theorem gX1_tellFrom_X1_thirdLook : GoodIn wsX1_tellFrom (va_wsS RX1 57 yX1_thirdLook wsX1_thirdLook) := goodIn_app (goodIn_of _ (by decide +kernel)) ggX1_tellFrom_X1_thirdLook
set_option maxRecDepth 20000 in
theorem ggX1_tellFrom_X2_setting : GoodIn wsX1_tellFrom wsX2_setting := goodIn_r _ [21, 22, 49, 50, 51, 52, 53] (by decide +kernel) (by decide +kernel)
set_option maxRecDepth 20000 in
theorem gX1_tellFrom_X2_setting : GoodIn wsX1_tellFrom (wsV RX1 60 RX2 yX2_setting wsX2_setting) := goodIn_app (goodIn_of _ (by decide +kernel)) ggX1_tellFrom_X2_setting
set_option maxRecDepth 20000 in
theorem ggX1_tellFrom_X1_kindOf : GoodIn wsX1_tellFrom wsX1_kindOf := goodIn_r _ [25, 26, 27, 6, 28, 29, 30, 31, 32, 33, 34, 35, 36, 37, 38] (by decide +kernel) (by decide +kernel)
set_option maxRecDepth 20000 in
theorem gX1_tellFrom_X1_kindOf : GoodIn wsX1_tellFrom (va_wsS RX1 63 yX1_kindOf wsX1_kindOf) := goodIn_app (goodIn_of _ (by decide +kernel)) ggX1_tellFrom_X1_kindOf
set_option maxRecDepth 20000 in
theorem ggX1_tellFrom_X1_wordIn : GoodIn wsX1_tellFrom wsX1_wordIn := goodIn_r _ [28] (by decide +kernel) (by decide +kernel)
set_option maxRecDepth 20000 in
theorem gX1_tellFrom_X1_wordIn : GoodIn wsX1_tellFrom (va_wsS RX1 67 yX1_wordIn wsX1_wordIn) := goodIn_app (goodIn_of _ (by decide +kernel)) ggX1_tellFrom_X1_wordIn
set_option maxRecDepth 20000 in
theorem ggX1_tellFrom_X1_add : GoodIn wsX1_tellFrom wsX1_add := goodIn_r _ [42, 43, 44, 1, 45, 46, 47, 48] (by decide +kernel) (by decide +kernel)
set_option maxRecDepth 20000 in
theorem gX1_tellFrom_X1_add : GoodIn wsX1_tellFrom (wsV RX1 70 RX1 yX1_add wsX1_add) := goodIn_app (goodIn_of _ (by decide +kernel)) ggX1_tellFrom_X1_add
theorem dX1_tellFrom_0 : decode cX1_tellFrom 0 = .ok (.aload_n 0, 1) := by decide +kernel
theorem dX1_tellFrom_1 : decode cX1_tellFrom 1 = .ok (.iconst 0, 1) := by decide +kernel
theorem dX1_tellFrom_2 : decode cX1_tellFrom 2 = .ok (.putfield 51, 3) := by decide +kernel
theorem dX1_tellFrom_5 : decode cX1_tellFrom 5 = .ok (.aload_n 0, 1) := by decide +kernel
theorem dX1_tellFrom_6 : decode cX1_tellFrom 6 = .ok (.aload_n 1, 1) := by decide +kernel
theorem dX1_tellFrom_7 : decode cX1_tellFrom 7 = .ok (.iload_n 2, 1) := by decide +kernel
theorem dX1_tellFrom_8 : decode cX1_tellFrom 8 = .ok (.iload_n 3, 1) := by decide +kernel
theorem dX1_tellFrom_9 : decode cX1_tellFrom 9 = .ok (.invokevirtual 54, 3) := by decide +kernel
theorem dX1_tellFrom_12 : decode cX1_tellFrom 12 = .ok (.iconst 1, 1) := by decide +kernel
theorem dX1_tellFrom_13 : decode cX1_tellFrom 13 = .ok (.if_icmp .ne 21, 3) := by decide +kernel
theorem dX1_tellFrom_16 : decode cX1_tellFrom 16 = .ok (.aload_n 0, 1) := by decide +kernel
theorem dX1_tellFrom_17 : decode cX1_tellFrom 17 = .ok (.dup, 1) := by decide +kernel
theorem dX1_tellFrom_18 : decode cX1_tellFrom 18 = .ok (.getfield 20, 3) := by decide +kernel
theorem dX1_tellFrom_21 : decode cX1_tellFrom 21 = .ok (.iconst 1, 1) := by decide +kernel
theorem dX1_tellFrom_22 : decode cX1_tellFrom 22 = .ok (.iadd, 1) := by decide +kernel
theorem dX1_tellFrom_23 : decode cX1_tellFrom 23 = .ok (.putfield 20, 3) := by decide +kernel
theorem dX1_tellFrom_26 : decode cX1_tellFrom 26 = .ok (.iload_n 2, 1) := by decide +kernel
theorem dX1_tellFrom_27 : decode cX1_tellFrom 27 = .ok (.iload_n 3, 1) := by decide +kernel
theorem dX1_tellFrom_28 : decode cX1_tellFrom 28 = .ok (.invokestatic 57, 3) := by decide +kernel
theorem dX1_tellFrom_31 : decode cX1_tellFrom 31 = .ok (.iconst 1, 1) := by decide +kernel
theorem dX1_tellFrom_32 : decode cX1_tellFrom 32 = .ok (.iadd, 1) := by decide +kernel
theorem dX1_tellFrom_33 : decode cX1_tellFrom 33 = .ok (.ireturn, 1) := by decide +kernel
theorem dX1_tellFrom_34 : decode cX1_tellFrom 34 = .ok (.aload_n 1, 1) := by decide +kernel
theorem dX1_tellFrom_35 : decode cX1_tellFrom 35 = .ok (.iconst 2, 1) := by decide +kernel
theorem dX1_tellFrom_36 : decode cX1_tellFrom 36 = .ok (.invokevirtual 60, 3) := by decide +kernel
theorem dX1_tellFrom_39 : decode cX1_tellFrom 39 = .ok (.ifCond .ne 8, 3) := by decide +kernel
theorem dX1_tellFrom_42 : decode cX1_tellFrom 42 = .ok (.bipush 9, 2) := by decide +kernel
theorem dX1_tellFrom_44 : decode cX1_tellFrom 44 = .ok (.goto 5, 3) := by decide +kernel
theorem dX1_tellFrom_47 : decode cX1_tellFrom 47 = .ok (.bipush 10, 2) := by decide +kernel
theorem dX1_tellFrom_49 : decode cX1_tellFrom 49 = .ok (.istore 4, 2) := by decide +kernel
theorem dX1_tellFrom_51 : decode cX1_tellFrom 51 = .ok (.iconst 0, 1) := by decide +kernel
theorem dX1_tellFrom_52 : decode cX1_tellFrom 52 = .ok (.istore 5, 2) := by decide +kernel
theorem dX1_tellFrom_54 : decode cX1_tellFrom 54 = .ok (.iconst 1, 1) := by decide +kernel
theorem dX1_tellFrom_55 : decode cX1_tellFrom 55 = .ok (.istore 6, 2) := by decide +kernel
theorem dX1_tellFrom_57 : decode cX1_tellFrom 57 = .ok (.iload 6, 2) := by decide +kernel
theorem dX1_tellFrom_59 : decode cX1_tellFrom 59 = .ok (.iload 4, 2) := by decide +kernel
theorem dX1_tellFrom_61 : decode cX1_tellFrom 61 = .ok (.if_icmp .gt 29, 3) := by decide +kernel
theorem dX1_tellFrom_64 : decode cX1_tellFrom 64 = .ok (.iload 5, 2) := by decide +kernel
theorem dX1_tellFrom_66 : decode cX1_tellFrom 66 = .ok (.aload_n 0, 1) := by decide +kernel
theorem dX1_tellFrom_67 : decode cX1_tellFrom 67 = .ok (.aload_n 1, 1) := by decide +kernel
theorem dX1_tellFrom_68 : decode cX1_tellFrom 68 = .ok (.iload_n 2, 1) := by decide +kernel
theorem dX1_tellFrom_69 : decode cX1_tellFrom 69 = .ok (.iload 6, 2) := by decide +kernel
theorem dX1_tellFrom_71 : decode cX1_tellFrom 71 = .ok (.iload_n 3, 1) := by decide +kernel
theorem dX1_tellFrom_72 : decode cX1_tellFrom 72 = .ok (.imul, 1) := by decide +kernel
theorem dX1_tellFrom_73 : decode cX1_tellFrom 73 = .ok (.iadd, 1) := by decide +kernel
theorem dX1_tellFrom_74 : decode cX1_tellFrom 74 = .ok (.iload_n 3, 1) := by decide +kernel
theorem dX1_tellFrom_75 : decode cX1_tellFrom 75 = .ok (.invokevirtual 54, 3) := by decide +kernel
theorem dX1_tellFrom_78 : decode cX1_tellFrom 78 = .ok (.iload 6, 2) := by decide +kernel
theorem dX1_tellFrom_80 : decode cX1_tellFrom 80 = .ok (.ishl, 1) := by decide +kernel
theorem dX1_tellFrom_81 : decode cX1_tellFrom 81 = .ok (.ior, 1) := by decide +kernel
theorem dX1_tellFrom_82 : decode cX1_tellFrom 82 = .ok (.istore 5, 2) := by decide +kernel
theorem dX1_tellFrom_84 : decode cX1_tellFrom 84 = .ok (.iinc 6 1, 3) := by decide +kernel
theorem dX1_tellFrom_87 : decode cX1_tellFrom 87 = .ok (.goto (-30), 3) := by decide +kernel
theorem dX1_tellFrom_90 : decode cX1_tellFrom 90 = .ok (.iload 5, 2) := by decide +kernel
theorem dX1_tellFrom_92 : decode cX1_tellFrom 92 = .ok (.iload 4, 2) := by decide +kernel
theorem dX1_tellFrom_94 : decode cX1_tellFrom 94 = .ok (.aload_n 1, 1) := by decide +kernel
theorem dX1_tellFrom_95 : decode cX1_tellFrom 95 = .ok (.iconst 2, 1) := by decide +kernel
theorem dX1_tellFrom_96 : decode cX1_tellFrom 96 = .ok (.invokevirtual 60, 3) := by decide +kernel
theorem dX1_tellFrom_99 : decode cX1_tellFrom 99 = .ok (.invokestatic 63, 3) := by decide +kernel
theorem dX1_tellFrom_102 : decode cX1_tellFrom 102 = .ok (.istore 6, 2) := by decide +kernel
theorem dX1_tellFrom_104 : decode cX1_tellFrom 104 = .ok (.iload_n 2, 1) := by decide +kernel
theorem dX1_tellFrom_105 : decode cX1_tellFrom 105 = .ok (.iload 4, 2) := by decide +kernel
theorem dX1_tellFrom_107 : decode cX1_tellFrom 107 = .ok (.iload_n 3, 1) := by decide +kernel
theorem dX1_tellFrom_108 : decode cX1_tellFrom 108 = .ok (.imul, 1) := by decide +kernel
theorem dX1_tellFrom_109 : decode cX1_tellFrom 109 = .ok (.iadd, 1) := by decide +kernel
theorem dX1_tellFrom_110 : decode cX1_tellFrom 110 = .ok (.iload_n 3, 1) := by decide +kernel
theorem dX1_tellFrom_111 : decode cX1_tellFrom 111 = .ok (.invokestatic 57, 3) := by decide +kernel
theorem dX1_tellFrom_114 : decode cX1_tellFrom 114 = .ok (.istore 7, 2) := by decide +kernel
theorem dX1_tellFrom_116 : decode cX1_tellFrom 116 = .ok (.aload_n 0, 1) := by decide +kernel
theorem dX1_tellFrom_117 : decode cX1_tellFrom 117 = .ok (.iload 6, 2) := by decide +kernel
theorem dX1_tellFrom_119 : decode cX1_tellFrom 119 = .ok (.iload 5, 2) := by decide +kernel
theorem dX1_tellFrom_121 : decode cX1_tellFrom 121 = .ok (.invokestatic 67, 3) := by decide +kernel
theorem dX1_tellFrom_124 : decode cX1_tellFrom 124 = .ok (.iload_n 2, 1) := by decide +kernel
theorem dX1_tellFrom_125 : decode cX1_tellFrom 125 = .ok (.iload 7, 2) := by decide +kernel
theorem dX1_tellFrom_127 : decode cX1_tellFrom 127 = .ok (.invokevirtual 70, 3) := by decide +kernel
theorem dX1_tellFrom_130 : decode cX1_tellFrom 130 = .ok (.iload 6, 2) := by decide +kernel
theorem dX1_tellFrom_132 : decode cX1_tellFrom 132 = .ok (.iconst 3, 1) := by decide +kernel
theorem dX1_tellFrom_133 : decode cX1_tellFrom 133 = .ok (.if_icmp .ne 10, 3) := by decide +kernel
theorem dX1_tellFrom_136 : decode cX1_tellFrom 136 = .ok (.iload 7, 2) := by decide +kernel
theorem dX1_tellFrom_138 : decode cX1_tellFrom 138 = .ok (.iconst 2, 1) := by decide +kernel
theorem dX1_tellFrom_139 : decode cX1_tellFrom 139 = .ok (.iadd, 1) := by decide +kernel
theorem dX1_tellFrom_140 : decode cX1_tellFrom 140 = .ok (.goto 7, 3) := by decide +kernel
theorem dX1_tellFrom_143 : decode cX1_tellFrom 143 = .ok (.iload 7, 2) := by decide +kernel
theorem dX1_tellFrom_145 : decode cX1_tellFrom 145 = .ok (.iconst 1, 1) := by decide +kernel
theorem dX1_tellFrom_146 : decode cX1_tellFrom 146 = .ok (.iadd, 1) := by decide +kernel
theorem dX1_tellFrom_147 : decode cX1_tellFrom 147 = .ok (.ireturn, 1) := by decide +kernel
set_option maxRecDepth 20000 in
theorem ggX1_tellBit_X2_levelAt : GoodIn wsX1_tellBit wsX2_levelAt := goodIn_r _ [6, 7, 8, 22, 23, 24, 25, 26] (by decide +kernel) (by decide +kernel)
set_option maxRecDepth 20000 in
theorem gX1_tellBit_X2_levelAt : GoodIn wsX1_tellBit (wsV RX1 74 RX2 yX2_levelAt wsX2_levelAt) := goodIn_app (goodIn_of _ (by decide +kernel)) ggX1_tellBit_X2_levelAt
set_option maxRecDepth 20000 in
theorem ggX1_tellBit_X1_thirdLook : GoodIn wsX1_tellBit wsX1_thirdLook := goodIn_r _ [12] (by decide +kernel) (by decide +kernel)
set_option maxRecDepth 20000 in
theorem gX1_tellBit_X1_thirdLook : GoodIn wsX1_tellBit (va_wsS RX1 57 yX1_thirdLook wsX1_thirdLook) := goodIn_app (goodIn_of _ (by decide +kernel)) ggX1_tellBit_X1_thirdLook
set_option maxRecDepth 20000 in
theorem ggX1_tellBit_X2_setting : GoodIn wsX1_tellBit wsX2_setting := goodIn_r _ [16, 17, 22, 23, 24, 25, 26] (by decide +kernel) (by decide +kernel)
set_option maxRecDepth 20000 in
theorem gX1_tellBit_X2_setting : GoodIn wsX1_tellBit (wsV RX1 60 RX2 yX2_setting wsX2_setting) := goodIn_app (goodIn_of _ (by decide +kernel)) ggX1_tellBit_X2_setting
theorem dX1_tellBit_0 : decode cX1_tellBit 0 = .ok (.aload_n 1, 1) := by decide +kernel
theorem dX1_tellBit_1 : decode cX1_tellBit 1 = .ok (.iload_n 2, 1) := by decide +kernel
theorem dX1_tellBit_2 : decode cX1_tellBit 2 = .ok (.iload_n 3, 1) := by decide +kernel
theorem dX1_tellBit_3 : decode cX1_tellBit 3 = .ok (.iconst 2, 1) := by decide +kernel
theorem dX1_tellBit_4 : decode cX1_tellBit 4 = .ok (.idiv, 1) := by decide +kernel
theorem dX1_tellBit_5 : decode cX1_tellBit 5 = .ok (.iadd, 1) := by decide +kernel
theorem dX1_tellBit_6 : decode cX1_tellBit 6 = .ok (.invokevirtual 74, 3) := by decide +kernel
theorem dX1_tellBit_9 : decode cX1_tellBit 9 = .ok (.istore 4, 2) := by decide +kernel
theorem dX1_tellBit_11 : decode cX1_tellBit 11 = .ok (.aload_n 1, 1) := by decide +kernel
theorem dX1_tellBit_12 : decode cX1_tellBit 12 = .ok (.iload_n 2, 1) := by decide +kernel
theorem dX1_tellBit_13 : decode cX1_tellBit 13 = .ok (.iload_n 3, 1) := by decide +kernel
theorem dX1_tellBit_14 : decode cX1_tellBit 14 = .ok (.iconst 3, 1) := by decide +kernel
theorem dX1_tellBit_15 : decode cX1_tellBit 15 = .ok (.idiv, 1) := by decide +kernel
theorem dX1_tellBit_16 : decode cX1_tellBit 16 = .ok (.iadd, 1) := by decide +kernel
theorem dX1_tellBit_17 : decode cX1_tellBit 17 = .ok (.invokevirtual 74, 3) := by decide +kernel
theorem dX1_tellBit_20 : decode cX1_tellBit 20 = .ok (.iload 4, 2) := by decide +kernel
theorem dX1_tellBit_22 : decode cX1_tellBit 22 = .ok (.iadd, 1) := by decide +kernel
theorem dX1_tellBit_23 : decode cX1_tellBit 23 = .ok (.aload_n 1, 1) := by decide +kernel
theorem dX1_tellBit_24 : decode cX1_tellBit 24 = .ok (.iload_n 2, 1) := by decide +kernel
theorem dX1_tellBit_25 : decode cX1_tellBit 25 = .ok (.iload_n 3, 1) := by decide +kernel
theorem dX1_tellBit_26 : decode cX1_tellBit 26 = .ok (.invokestatic 57, 3) := by decide +kernel
theorem dX1_tellBit_29 : decode cX1_tellBit 29 = .ok (.invokevirtual 74, 3) := by decide +kernel
theorem dX1_tellBit_32 : decode cX1_tellBit 32 = .ok (.iadd, 1) := by decide +kernel
theorem dX1_tellBit_33 : decode cX1_tellBit 33 = .ok (.istore 5, 2) := by decide +kernel
theorem dX1_tellBit_35 : decode cX1_tellBit 35 = .ok (.iload 5, 2) := by decide +kernel
theorem dX1_tellBit_37 : decode cX1_tellBit 37 = .ok (.iconst 1, 1) := by decide +kernel
theorem dX1_tellBit_38 : decode cX1_tellBit 38 = .ok (.if_icmp .eq 9, 3) := by decide +kernel
theorem dX1_tellBit_41 : decode cX1_tellBit 41 = .ok (.iload 5, 2) := by decide +kernel
theorem dX1_tellBit_43 : decode cX1_tellBit 43 = .ok (.iconst 2, 1) := by decide +kernel
theorem dX1_tellBit_44 : decode cX1_tellBit 44 = .ok (.if_icmp .ne 13, 3) := by decide +kernel
theorem dX1_tellBit_47 : decode cX1_tellBit 47 = .ok (.aload_n 0, 1) := by decide +kernel
theorem dX1_tellBit_48 : decode cX1_tellBit 48 = .ok (.dup, 1) := by decide +kernel
theorem dX1_tellBit_49 : decode cX1_tellBit 49 = .ok (.getfield 51, 3) := by decide +kernel
theorem dX1_tellBit_52 : decode cX1_tellBit 52 = .ok (.iconst 1, 1) := by decide +kernel
theorem dX1_tellBit_53 : decode cX1_tellBit 53 = .ok (.iadd, 1) := by decide +kernel
theorem dX1_tellBit_54 : decode cX1_tellBit 54 = .ok (.putfield 51, 3) := by decide +kernel
theorem dX1_tellBit_57 : decode cX1_tellBit 57 = .ok (.aload_n 1, 1) := by decide +kernel
theorem dX1_tellBit_58 : decode cX1_tellBit 58 = .ok (.iconst 4, 1) := by decide +kernel
theorem dX1_tellBit_59 : decode cX1_tellBit 59 = .ok (.invokevirtual 60, 3) := by decide +kernel
theorem dX1_tellBit_62 : decode cX1_tellBit 62 = .ok (.iconst 1, 1) := by decide +kernel
theorem dX1_tellBit_63 : decode cX1_tellBit 63 = .ok (.if_icmp .ne 6, 3) := by decide +kernel
theorem dX1_tellBit_66 : decode cX1_tellBit 66 = .ok (.iload 4, 2) := by decide +kernel
theorem dX1_tellBit_68 : decode cX1_tellBit 68 = .ok (.ireturn, 1) := by decide +kernel
theorem dX1_tellBit_69 : decode cX1_tellBit 69 = .ok (.iload 5, 2) := by decide +kernel
theorem dX1_tellBit_71 : decode cX1_tellBit 71 = .ok (.iconst 2, 1) := by decide +kernel
theorem dX1_tellBit_72 : decode cX1_tellBit 72 = .ok (.if_icmp .lt 7, 3) := by decide +kernel
theorem dX1_tellBit_75 : decode cX1_tellBit 75 = .ok (.iconst 1, 1) := by decide +kernel
theorem dX1_tellBit_76 : decode cX1_tellBit 76 = .ok (.goto 4, 3) := by decide +kernel
theorem dX1_tellBit_79 : decode cX1_tellBit 79 = .ok (.iconst 0, 1) := by decide +kernel
theorem dX1_tellBit_80 : decode cX1_tellBit 80 = .ok (.ireturn, 1) := by decide +kernel
theorem dX1_thirdLook_0 : decode cX1_thirdLook 0 = .ok (.iload_n 0, 1) := by decide +kernel
theorem dX1_thirdLook_1 : decode cX1_thirdLook 1 = .ok (.iconst 2, 1) := by decide +kernel
theorem dX1_thirdLook_2 : decode cX1_thirdLook 2 = .ok (.iload_n 1, 1) := by decide +kernel
theorem dX1_thirdLook_3 : decode cX1_thirdLook 3 = .ok (.imul, 1) := by decide +kernel
theorem dX1_thirdLook_4 : decode cX1_thirdLook 4 = .ok (.iconst 3, 1) := by decide +kernel
theorem dX1_thirdLook_5 : decode cX1_thirdLook 5 = .ok (.idiv, 1) := by decide +kernel
theorem dX1_thirdLook_6 : decode cX1_thirdLook 6 = .ok (.iadd, 1) := by decide +kernel
theorem dX1_thirdLook_7 : decode cX1_thirdLook 7 = .ok (.ireturn, 1) := by decide +kernel
theorem dX1_wordIn_0 : decode cX1_wordIn 0 = .ok (.iload_n 0, 1) := by decide +kernel
theorem dX1_wordIn_1 : decode cX1_wordIn 1 = .ok (.iconst 1, 1) := by decide +kernel
theorem dX1_wordIn_2 : decode cX1_wordIn 2 = .ok (.ishr, 1) := by decide +kernel
theorem dX1_wordIn_3 : decode cX1_wordIn 3 = .ok (.sipush 255, 3) := by decide +kernel
theorem dX1_wordIn_6 : decode cX1_wordIn 6 = .ok (.iand, 1) := by decide +kernel
theorem dX1_wordIn_7 : decode cX1_wordIn 7 = .ok (.ireturn, 1) := by decide +kernel
set_option maxRecDepth 20000 in
theorem ggX1_kindOf_X1_wordIn : GoodIn wsX1_kindOf wsX1_wordIn := goodIn_r _ [4] (by decide +kernel) (by decide +kernel)
set_option maxRecDepth 20000 in
theorem gX1_kindOf_X1_wordIn : GoodIn wsX1_kindOf (va_wsS RX1 67 yX1_wordIn wsX1_wordIn) := goodIn_app (goodIn_of _ (by decide +kernel)) ggX1_kindOf_X1_wordIn
set_option maxRecDepth 20000 in
theorem ggX1_kindOf_X4_parityOf : GoodIn wsX1_kindOf wsX4_parityOf := goodIn_r _ [7, 8, 9, 10, 11, 12, 13, 14] (by decide +kernel) (by decide +kernel)
set_option maxRecDepth 20000 in
theorem gX1_kindOf_X4_parityOf_n77 : GoodIn wsX1_kindOf (wsX4_parityOf) := ggX1_kindOf_X4_parityOf
theorem dX1_kindOf_0 : decode cX1_kindOf 0 = .ok (.iload_n 0, 1) := by decide +kernel
theorem dX1_kindOf_1 : decode cX1_kindOf 1 = .ok (.ifCond .ne 5, 3) := by decide +kernel
theorem dX1_kindOf_4 : decode cX1_kindOf 4 = .ok (.iconst 3, 1) := by decide +kernel
theorem dX1_kindOf_5 : decode cX1_kindOf 5 = .ok (.ireturn, 1) := by decide +kernel
theorem dX1_kindOf_6 : decode cX1_kindOf 6 = .ok (.iload_n 0, 1) := by decide +kernel
theorem dX1_kindOf_7 : decode cX1_kindOf 7 = .ok (.iload_n 1, 1) := by decide +kernel
theorem dX1_kindOf_8 : decode cX1_kindOf 8 = .ok (.ishr, 1) := by decide +kernel
theorem dX1_kindOf_9 : decode cX1_kindOf 9 = .ok (.iconst 1, 1) := by decide +kernel
theorem dX1_kindOf_10 : decode cX1_kindOf 10 = .ok (.iand, 1) := by decide +kernel
theorem dX1_kindOf_11 : decode cX1_kindOf 11 = .ok (.ifCond .ne 5, 3) := by decide +kernel
theorem dX1_kindOf_14 : decode cX1_kindOf 14 = .ok (.iconst 2, 1) := by decide +kernel
theorem dX1_kindOf_15 : decode cX1_kindOf 15 = .ok (.ireturn, 1) := by decide +kernel
theorem dX1_kindOf_16 : decode cX1_kindOf 16 = .ok (.iload_n 2, 1) := by decide +kernel
theorem dX1_kindOf_17 : decode cX1_kindOf 17 = .ok (.ifCond .eq 22, 3) := by decide +kernel
theorem dX1_kindOf_20 : decode cX1_kindOf 20 = .ok (.iload_n 0, 1) := by decide +kernel
theorem dX1_kindOf_21 : decode cX1_kindOf 21 = .ok (.bipush 9, 2) := by decide +kernel
theorem dX1_kindOf_23 : decode cX1_kindOf 23 = .ok (.ishr, 1) := by decide +kernel
theorem dX1_kindOf_24 : decode cX1_kindOf 24 = .ok (.iconst 1, 1) := by decide +kernel
theorem dX1_kindOf_25 : decode cX1_kindOf 25 = .ok (.iand, 1) := by decide +kernel
theorem dX1_kindOf_26 : decode cX1_kindOf 26 = .ok (.iload_n 0, 1) := by decide +kernel
theorem dX1_kindOf_27 : decode cX1_kindOf 27 = .ok (.invokestatic 67, 3) := by decide +kernel
theorem dX1_kindOf_30 : decode cX1_kindOf 30 = .ok (.iload_n 2, 1) := by decide +kernel
theorem dX1_kindOf_31 : decode cX1_kindOf 31 = .ok (.invokestatic 77, 3) := by decide +kernel
theorem dX1_kindOf_34 : decode cX1_kindOf 34 = .ok (.if_icmp .eq 5, 3) := by decide +kernel
theorem dX1_kindOf_37 : decode cX1_kindOf 37 = .ok (.iconst 1, 1) := by decide +kernel
theorem dX1_kindOf_38 : decode cX1_kindOf 38 = .ok (.ireturn, 1) := by decide +kernel
theorem dX1_kindOf_39 : decode cX1_kindOf 39 = .ok (.iconst 0, 1) := by decide +kernel
theorem dX1_kindOf_40 : decode cX1_kindOf 40 = .ok (.ireturn, 1) := by decide +kernel
theorem dX1_add_0 : decode cX1_add 0 = .ok (.aload_n 0, 1) := by decide +kernel
theorem dX1_add_1 : decode cX1_add 1 = .ok (.getfield 16, 3) := by decide +kernel
theorem dX1_add_4 : decode cX1_add 4 = .ok (.bipush 39, 2) := by decide +kernel
theorem dX1_add_6 : decode cX1_add 6 = .ok (.if_icmp .ge 77, 3) := by decide +kernel
theorem dX1_add_9 : decode cX1_add 9 = .ok (.aload_n 0, 1) := by decide +kernel
theorem dX1_add_10 : decode cX1_add 10 = .ok (.getfield 13, 3) := by decide +kernel
theorem dX1_add_13 : decode cX1_add 13 = .ok (.iconst 0, 1) := by decide +kernel
theorem dX1_add_14 : decode cX1_add 14 = .ok (.aaload, 1) := by decide +kernel
theorem dX1_add_15 : decode cX1_add 15 = .ok (.aload_n 0, 1) := by decide +kernel
theorem dX1_add_16 : decode cX1_add 16 = .ok (.getfield 16, 3) := by decide +kernel
theorem dX1_add_19 : decode cX1_add 19 = .ok (.iload_n 1, 1) := by decide +kernel
theorem dX1_add_20 : decode cX1_add 20 = .ok (.iastore, 1) := by decide +kernel
theorem dX1_add_21 : decode cX1_add 21 = .ok (.aload_n 0, 1) := by decide +kernel
theorem dX1_add_22 : decode cX1_add 22 = .ok (.getfield 13, 3) := by decide +kernel
theorem dX1_add_25 : decode cX1_add 25 = .ok (.iconst 1, 1) := by decide +kernel
theorem dX1_add_26 : decode cX1_add 26 = .ok (.aaload, 1) := by decide +kernel
theorem dX1_add_27 : decode cX1_add 27 = .ok (.aload_n 0, 1) := by decide +kernel
theorem dX1_add_28 : decode cX1_add 28 = .ok (.getfield 16, 3) := by decide +kernel
theorem dX1_add_31 : decode cX1_add 31 = .ok (.iload_n 2, 1) := by decide +kernel
theorem dX1_add_32 : decode cX1_add 32 = .ok (.iastore, 1) := by decide +kernel
theorem dX1_add_33 : decode cX1_add 33 = .ok (.aload_n 0, 1) := by decide +kernel
theorem dX1_add_34 : decode cX1_add 34 = .ok (.getfield 13, 3) := by decide +kernel
theorem dX1_add_37 : decode cX1_add 37 = .ok (.iconst 2, 1) := by decide +kernel
theorem dX1_add_38 : decode cX1_add 38 = .ok (.aaload, 1) := by decide +kernel
theorem dX1_add_39 : decode cX1_add 39 = .ok (.aload_n 0, 1) := by decide +kernel
theorem dX1_add_40 : decode cX1_add 40 = .ok (.getfield 16, 3) := by decide +kernel
theorem dX1_add_43 : decode cX1_add 43 = .ok (.iload_n 3, 1) := by decide +kernel
theorem dX1_add_44 : decode cX1_add 44 = .ok (.iastore, 1) := by decide +kernel
theorem dX1_add_45 : decode cX1_add 45 = .ok (.aload_n 0, 1) := by decide +kernel
theorem dX1_add_46 : decode cX1_add 46 = .ok (.getfield 13, 3) := by decide +kernel
theorem dX1_add_49 : decode cX1_add 49 = .ok (.iconst 3, 1) := by decide +kernel
theorem dX1_add_50 : decode cX1_add 50 = .ok (.aaload, 1) := by decide +kernel
theorem dX1_add_51 : decode cX1_add 51 = .ok (.aload_n 0, 1) := by decide +kernel
theorem dX1_add_52 : decode cX1_add 52 = .ok (.getfield 16, 3) := by decide +kernel
theorem dX1_add_55 : decode cX1_add 55 = .ok (.aload_n 0, 1) := by decide +kernel
theorem dX1_add_56 : decode cX1_add 56 = .ok (.getfield 51, 3) := by decide +kernel
theorem dX1_add_59 : decode cX1_add 59 = .ok (.iastore, 1) := by decide +kernel
theorem dX1_add_60 : decode cX1_add 60 = .ok (.aload_n 0, 1) := by decide +kernel
theorem dX1_add_61 : decode cX1_add 61 = .ok (.getfield 13, 3) := by decide +kernel
theorem dX1_add_64 : decode cX1_add 64 = .ok (.iconst 4, 1) := by decide +kernel
theorem dX1_add_65 : decode cX1_add 65 = .ok (.aaload, 1) := by decide +kernel
theorem dX1_add_66 : decode cX1_add 66 = .ok (.aload_n 0, 1) := by decide +kernel
theorem dX1_add_67 : decode cX1_add 67 = .ok (.getfield 16, 3) := by decide +kernel
theorem dX1_add_70 : decode cX1_add 70 = .ok (.iload 4, 2) := by decide +kernel
theorem dX1_add_72 : decode cX1_add 72 = .ok (.iastore, 1) := by decide +kernel
theorem dX1_add_73 : decode cX1_add 73 = .ok (.aload_n 0, 1) := by decide +kernel
theorem dX1_add_74 : decode cX1_add 74 = .ok (.dup, 1) := by decide +kernel
theorem dX1_add_75 : decode cX1_add 75 = .ok (.getfield 16, 3) := by decide +kernel
theorem dX1_add_78 : decode cX1_add 78 = .ok (.iconst 1, 1) := by decide +kernel
theorem dX1_add_79 : decode cX1_add 79 = .ok (.iadd, 1) := by decide +kernel
theorem dX1_add_80 : decode cX1_add 80 = .ok (.putfield 16, 3) := by decide +kernel
theorem dX1_add_83 : decode cX1_add 83 = .ok (.return_, 1) := by decide +kernel
set_option maxRecDepth 20000 in
theorem ggX2_init_J7_fill_d0a16 : GoodIn wsX2_init wsJ7_fill_d0a16 := goodIn_r _ [17] (by decide +kernel) (by decide +kernel)
set_option maxRecDepth 20000 in
theorem gX2_init_J7_fill_d0a16 : GoodIn wsX2_init (va_wsS RX2 24 yJ7_fill_d0a16 wsJ7_fill_d0a16) := goodIn_app (goodIn_of _ (by decide +kernel)) ggX2_init_J7_fill_d0a16
theorem dX2_init_0 : decode cX2_init 0 = .ok (.aload_n 0, 1) := by decide +kernel
theorem dX2_init_1 : decode cX2_init 1 = .ok (.invokespecial 5, 3) := by decide +kernel
theorem dX2_init_4 : decode cX2_init 4 = .ok (.aload_n 0, 1) := by decide +kernel
theorem dX2_init_5 : decode cX2_init 5 = .ok (.bipush 24, 2) := by decide +kernel
theorem dX2_init_7 : decode cX2_init 7 = .ok (.newarray .long, 2) := by decide +kernel
theorem dX2_init_9 : decode cX2_init 9 = .ok (.putfield 11, 3) := by decide +kernel
theorem dX2_init_12 : decode cX2_init 12 = .ok (.aload_n 0, 1) := by decide +kernel
theorem dX2_init_13 : decode cX2_init 13 = .ok (.bipush 37, 2) := by decide +kernel
theorem dX2_init_15 : decode cX2_init 15 = .ok (.newarray .int, 2) := by decide +kernel
theorem dX2_init_17 : decode cX2_init 17 = .ok (.putfield 15, 3) := by decide +kernel
theorem dX2_init_20 : decode cX2_init 20 = .ok (.aload_n 0, 1) := by decide +kernel
theorem dX2_init_21 : decode cX2_init 21 = .ok (.iconst 5, 1) := by decide +kernel
theorem dX2_init_22 : decode cX2_init 22 = .ok (.newarray .int, 2) := by decide +kernel
theorem dX2_init_24 : decode cX2_init 24 = .ok (.putfield 19, 3) := by decide +kernel
theorem dX2_init_27 : decode cX2_init 27 = .ok (.aload_n 0, 1) := by decide +kernel
theorem dX2_init_28 : decode cX2_init 28 = .ok (.getfield 11, 3) := by decide +kernel
theorem dX2_init_31 : decode cX2_init 31 = .ok (.ldc2_w 22, 3) := by decide +kernel
theorem dX2_init_34 : decode cX2_init 34 = .ok (.invokestatic 24, 3) := by decide +kernel
theorem dX2_init_37 : decode cX2_init 37 = .ok (.getstatic 30, 3) := by decide +kernel
theorem dX2_init_40 : decode cX2_init 40 = .ok (.iconst 0, 1) := by decide +kernel
theorem dX2_init_41 : decode cX2_init 41 = .ok (.aload_n 0, 1) := by decide +kernel
theorem dX2_init_42 : decode cX2_init 42 = .ok (.getfield 19, 3) := by decide +kernel
theorem dX2_init_45 : decode cX2_init 45 = .ok (.iconst 0, 1) := by decide +kernel
theorem dX2_init_46 : decode cX2_init 46 = .ok (.iconst 5, 1) := by decide +kernel
theorem dX2_init_47 : decode cX2_init 47 = .ok (.invokestatic 33, 3) := by decide +kernel
theorem dX2_init_50 : decode cX2_init 50 = .ok (.return_, 1) := by decide +kernel
theorem dX2_copyFrom_0 : decode cX2_copyFrom 0 = .ok (.aload_n 1, 1) := by decide +kernel
theorem dX2_copyFrom_1 : decode cX2_copyFrom 1 = .ok (.getfield 11, 3) := by decide +kernel
theorem dX2_copyFrom_4 : decode cX2_copyFrom 4 = .ok (.iconst 0, 1) := by decide +kernel
theorem dX2_copyFrom_5 : decode cX2_copyFrom 5 = .ok (.aload_n 0, 1) := by decide +kernel
theorem dX2_copyFrom_6 : decode cX2_copyFrom 6 = .ok (.getfield 11, 3) := by decide +kernel
theorem dX2_copyFrom_9 : decode cX2_copyFrom 9 = .ok (.iconst 0, 1) := by decide +kernel
theorem dX2_copyFrom_10 : decode cX2_copyFrom 10 = .ok (.bipush 24, 2) := by decide +kernel
theorem dX2_copyFrom_12 : decode cX2_copyFrom 12 = .ok (.invokestatic 33, 3) := by decide +kernel
theorem dX2_copyFrom_15 : decode cX2_copyFrom 15 = .ok (.aload_n 1, 1) := by decide +kernel
theorem dX2_copyFrom_16 : decode cX2_copyFrom 16 = .ok (.getfield 15, 3) := by decide +kernel
theorem dX2_copyFrom_19 : decode cX2_copyFrom 19 = .ok (.iconst 0, 1) := by decide +kernel
theorem dX2_copyFrom_20 : decode cX2_copyFrom 20 = .ok (.aload_n 0, 1) := by decide +kernel
theorem dX2_copyFrom_21 : decode cX2_copyFrom 21 = .ok (.getfield 15, 3) := by decide +kernel
theorem dX2_copyFrom_24 : decode cX2_copyFrom 24 = .ok (.iconst 0, 1) := by decide +kernel
theorem dX2_copyFrom_25 : decode cX2_copyFrom 25 = .ok (.bipush 37, 2) := by decide +kernel
theorem dX2_copyFrom_27 : decode cX2_copyFrom 27 = .ok (.invokestatic 33, 3) := by decide +kernel
theorem dX2_copyFrom_30 : decode cX2_copyFrom 30 = .ok (.aload_n 1, 1) := by decide +kernel
theorem dX2_copyFrom_31 : decode cX2_copyFrom 31 = .ok (.getfield 19, 3) := by decide +kernel
theorem dX2_copyFrom_34 : decode cX2_copyFrom 34 = .ok (.iconst 0, 1) := by decide +kernel
theorem dX2_copyFrom_35 : decode cX2_copyFrom 35 = .ok (.aload_n 0, 1) := by decide +kernel
theorem dX2_copyFrom_36 : decode cX2_copyFrom 36 = .ok (.getfield 19, 3) := by decide +kernel
theorem dX2_copyFrom_39 : decode cX2_copyFrom 39 = .ok (.iconst 0, 1) := by decide +kernel
theorem dX2_copyFrom_40 : decode cX2_copyFrom 40 = .ok (.iconst 5, 1) := by decide +kernel
theorem dX2_copyFrom_41 : decode cX2_copyFrom 41 = .ok (.invokestatic 33, 3) := by decide +kernel
theorem dX2_copyFrom_44 : decode cX2_copyFrom 44 = .ok (.aload_n 0, 1) := by decide +kernel
theorem dX2_copyFrom_45 : decode cX2_copyFrom 45 = .ok (.aload_n 1, 1) := by decide +kernel
theorem dX2_copyFrom_46 : decode cX2_copyFrom 46 = .ok (.getfield 39, 3) := by decide +kernel
theorem dX2_copyFrom_49 : decode cX2_copyFrom 49 = .ok (.putfield 39, 3) := by decide +kernel
theorem dX2_copyFrom_52 : decode cX2_copyFrom 52 = .ok (.aload_n 0, 1) := by decide +kernel
theorem dX2_copyFrom_53 : decode cX2_copyFrom 53 = .ok (.aload_n 1, 1) := by decide +kernel
theorem dX2_copyFrom_54 : decode cX2_copyFrom 54 = .ok (.getfield 43, 3) := by decide +kernel
theorem dX2_copyFrom_57 : decode cX2_copyFrom 57 = .ok (.putfield 43, 3) := by decide +kernel
theorem dX2_copyFrom_60 : decode cX2_copyFrom 60 = .ok (.return_, 1) := by decide +kernel
theorem dX2_end_0 : decode cX2_end 0 = .ok (.aload_n 0, 1) := by decide +kernel
theorem dX2_end_1 : decode cX2_end 1 = .ok (.getfield 39, 3) := by decide +kernel
theorem dX2_end_4 : decode cX2_end 4 = .ok (.ireturn, 1) := by decide +kernel
theorem dX2_wordCount_0 : decode cX2_wordCount 0 = .ok (.aload_n 0, 1) := by decide +kernel
theorem dX2_wordCount_1 : decode cX2_wordCount 1 = .ok (.getfield 43, 3) := by decide +kernel
theorem dX2_wordCount_4 : decode cX2_wordCount 4 = .ok (.ireturn, 1) := by decide +kernel
theorem dX2_setting_0 : decode cX2_setting 0 = .ok (.iload_n 1, 1) := by decide +kernel
theorem dX2_setting_1 : decode cX2_setting 1 = .ok (.ifCond .lt 8, 3) := by decide +kernel
theorem dX2_setting_4 : decode cX2_setting 4 = .ok (.iload_n 1, 1) := by decide +kernel
theorem dX2_setting_5 : decode cX2_setting 5 = .ok (.iconst 5, 1) := by decide +kernel
theorem dX2_setting_6 : decode cX2_setting 6 = .ok (.if_icmp .lt 7, 3) := by decide +kernel
theorem dX2_setting_9 : decode cX2_setting 9 = .ok (.iconst (-1), 1) := by decide +kernel
theorem dX2_setting_10 : decode cX2_setting 10 = .ok (.goto 9, 3) := by decide +kernel
theorem dX2_setting_13 : decode cX2_setting 13 = .ok (.aload_n 0, 1) := by decide +kernel
theorem dX2_setting_14 : decode cX2_setting 14 = .ok (.getfield 19, 3) := by decide +kernel
theorem dX2_setting_17 : decode cX2_setting 17 = .ok (.iload_n 1, 1) := by decide +kernel
theorem dX2_setting_18 : decode cX2_setting 18 = .ok (.iaload, 1) := by decide +kernel
theorem dX2_setting_19 : decode cX2_setting 19 = .ok (.ireturn, 1) := by decide +kernel
theorem dX2_wordOfRank_0 : decode cX2_wordOfRank 0 = .ok (.iload_n 1, 1) := by decide +kernel
theorem dX2_wordOfRank_1 : decode cX2_wordOfRank 1 = .ok (.ifCond .lt 11, 3) := by decide +kernel
theorem dX2_wordOfRank_4 : decode cX2_wordOfRank 4 = .ok (.iload_n 1, 1) := by decide +kernel
theorem dX2_wordOfRank_5 : decode cX2_wordOfRank 5 = .ok (.aload_n 0, 1) := by decide +kernel
theorem dX2_wordOfRank_6 : decode cX2_wordOfRank 6 = .ok (.getfield 43, 3) := by decide +kernel
theorem dX2_wordOfRank_9 : decode cX2_wordOfRank 9 = .ok (.if_icmp .lt 8, 3) := by decide +kernel
theorem dX2_wordOfRank_12 : decode cX2_wordOfRank 12 = .ok (.bipush (-5), 2) := by decide +kernel
theorem dX2_wordOfRank_14 : decode cX2_wordOfRank 14 = .ok (.goto 9, 3) := by decide +kernel
theorem dX2_wordOfRank_17 : decode cX2_wordOfRank 17 = .ok (.aload_n 0, 1) := by decide +kernel
theorem dX2_wordOfRank_18 : decode cX2_wordOfRank 18 = .ok (.getfield 15, 3) := by decide +kernel
theorem dX2_wordOfRank_21 : decode cX2_wordOfRank 21 = .ok (.iload_n 1, 1) := by decide +kernel
theorem dX2_wordOfRank_22 : decode cX2_wordOfRank 22 = .ok (.iaload, 1) := by decide +kernel
theorem dX2_wordOfRank_23 : decode cX2_wordOfRank 23 = .ok (.ireturn, 1) := by decide +kernel
theorem dX2_change_0 : decode cX2_change 0 = .ok (.iload_n 1, 1) := by decide +kernel
theorem dX2_change_1 : decode cX2_change 1 = .ok (.ifCond .lt 15, 3) := by decide +kernel
theorem dX2_change_4 : decode cX2_change 4 = .ok (.iload_n 1, 1) := by decide +kernel
theorem dX2_change_5 : decode cX2_change 5 = .ok (.iconst 5, 1) := by decide +kernel
theorem dX2_change_6 : decode cX2_change 6 = .ok (.if_icmp .ge 10, 3) := by decide +kernel
theorem dX2_change_9 : decode cX2_change 9 = .ok (.aload_n 0, 1) := by decide +kernel
theorem dX2_change_10 : decode cX2_change 10 = .ok (.getfield 19, 3) := by decide +kernel
theorem dX2_change_13 : decode cX2_change 13 = .ok (.iload_n 1, 1) := by decide +kernel
theorem dX2_change_14 : decode cX2_change 14 = .ok (.iload_n 2, 1) := by decide +kernel
theorem dX2_change_15 : decode cX2_change 15 = .ok (.iastore, 1) := by decide +kernel
theorem dX2_change_16 : decode cX2_change 16 = .ok (.return_, 1) := by decide +kernel
set_option maxRecDepth 20000 in
theorem ggX2_clearWire_J7_fill_d0a16 : GoodIn wsX2_clearWire wsJ7_fill_d0a16 := goodIn_r _ [8] (by decide +kernel) (by decide +kernel)
set_option maxRecDepth 20000 in
theorem gX2_clearWire_J7_fill_d0a16 : GoodIn wsX2_clearWire (va_wsS RX2 24 yJ7_fill_d0a16 wsJ7_fill_d0a16) := goodIn_app (goodIn_of _ (by decide +kernel)) ggX2_clearWire_J7_fill_d0a16
theorem dX2_clearWire_0 : decode cX2_clearWire 0 = .ok (.aload_n 0, 1) := by decide +kernel
theorem dX2_clearWire_1 : decode cX2_clearWire 1 = .ok (.getfield 11, 3) := by decide +kernel
theorem dX2_clearWire_4 : decode cX2_clearWire 4 = .ok (.ldc2_w 22, 3) := by decide +kernel
theorem dX2_clearWire_7 : decode cX2_clearWire 7 = .ok (.invokestatic 24, 3) := by decide +kernel
theorem dX2_clearWire_10 : decode cX2_clearWire 10 = .ok (.aload_n 0, 1) := by decide +kernel
theorem dX2_clearWire_11 : decode cX2_clearWire 11 = .ok (.iconst 0, 1) := by decide +kernel
theorem dX2_clearWire_12 : decode cX2_clearWire 12 = .ok (.putfield 39, 3) := by decide +kernel
theorem dX2_clearWire_15 : decode cX2_clearWire 15 = .ok (.aload_n 0, 1) := by decide +kernel
theorem dX2_clearWire_16 : decode cX2_clearWire 16 = .ok (.iconst 0, 1) := by decide +kernel
theorem dX2_clearWire_17 : decode cX2_clearWire 17 = .ok (.putfield 43, 3) := by decide +kernel
theorem dX2_clearWire_20 : decode cX2_clearWire 20 = .ok (.return_, 1) := by decide +kernel
theorem dX2_hasRoom_0 : decode cX2_hasRoom 0 = .ok (.iload_n 1, 1) := by decide +kernel
theorem dX2_hasRoom_1 : decode cX2_hasRoom 1 = .ok (.sipush 1500, 3) := by decide +kernel
theorem dX2_hasRoom_4 : decode cX2_hasRoom 4 = .ok (.aload_n 0, 1) := by decide +kernel
theorem dX2_hasRoom_5 : decode cX2_hasRoom 5 = .ok (.getfield 39, 3) := by decide +kernel
theorem dX2_hasRoom_8 : decode cX2_hasRoom 8 = .ok (.isub, 1) := by decide +kernel
theorem dX2_hasRoom_9 : decode cX2_hasRoom 9 = .ok (.if_icmp .gt 7, 3) := by decide +kernel
theorem dX2_hasRoom_12 : decode cX2_hasRoom 12 = .ok (.iconst 1, 1) := by decide +kernel
theorem dX2_hasRoom_13 : decode cX2_hasRoom 13 = .ok (.goto 4, 3) := by decide +kernel
theorem dX2_hasRoom_16 : decode cX2_hasRoom 16 = .ok (.iconst 0, 1) := by decide +kernel
theorem dX2_hasRoom_17 : decode cX2_hasRoom 17 = .ok (.ireturn, 1) := by decide +kernel
set_option maxRecDepth 20000 in
theorem ggX2_ticksOfWord_X2_bitsOfWord : GoodIn wsX2_ticksOfWord wsX2_bitsOfWord := goodIn_r _ [6, 1, 7, 8, 9, 10, 11] (by decide +kernel) (by decide +kernel)
set_option maxRecDepth 20000 in
theorem gX2_ticksOfWord_X2_bitsOfWord : GoodIn wsX2_ticksOfWord (wsV RX2 46 RX2 yX2_bitsOfWord wsX2_bitsOfWord) := goodIn_app (goodIn_of _ (by decide +kernel)) ggX2_ticksOfWord_X2_bitsOfWord
theorem dX2_ticksOfWord_0 : decode cX2_ticksOfWord 0 = .ok (.aload_n 0, 1) := by decide +kernel
theorem dX2_ticksOfWord_1 : decode cX2_ticksOfWord 1 = .ok (.invokevirtual 46, 3) := by decide +kernel
theorem dX2_ticksOfWord_4 : decode cX2_ticksOfWord 4 = .ok (.aload_n 0, 1) := by decide +kernel
theorem dX2_ticksOfWord_5 : decode cX2_ticksOfWord 5 = .ok (.getfield 19, 3) := by decide +kernel
theorem dX2_ticksOfWord_8 : decode cX2_ticksOfWord 8 = .ok (.iconst 0, 1) := by decide +kernel
theorem dX2_ticksOfWord_9 : decode cX2_ticksOfWord 9 = .ok (.iaload, 1) := by decide +kernel
theorem dX2_ticksOfWord_10 : decode cX2_ticksOfWord 10 = .ok (.imul, 1) := by decide +kernel
theorem dX2_ticksOfWord_11 : decode cX2_ticksOfWord 11 = .ok (.bipush 16, 2) := by decide +kernel
theorem dX2_ticksOfWord_13 : decode cX2_ticksOfWord 13 = .ok (.idiv, 1) := by decide +kernel
theorem dX2_ticksOfWord_14 : decode cX2_ticksOfWord 14 = .ok (.ireturn, 1) := by decide +kernel
set_option maxRecDepth 20000 in
theorem ggX2_addWord_X2_ticksOfWord : GoodIn wsX2_addWord wsX2_ticksOfWord := goodIn_r _ [9, 2, 10, 11, 12, 8, 13, 42, 43, 44, 45, 46] (by decide +kernel) (by decide +kernel)
set_option maxRecDepth 20000 in
theorem gX2_addWord_X2_ticksOfWord : GoodIn wsX2_addWord (wsV RX2 50 RX2 yX2_ticksOfWord wsX2_ticksOfWord) := goodIn_app (goodIn_of _ (by decide +kernel)) ggX2_addWord_X2_ticksOfWord
set_option maxRecDepth 20000 in
theorem ggX2_addWord_X2_hasRoom : GoodIn wsX2_addWord wsX2_hasRoom := goodIn_r _ [17, 3, 42, 43, 44, 45, 46] (by decide +kernel) (by decide +kernel)
set_option maxRecDepth 20000 in
theorem gX2_addWord_X2_hasRoom : GoodIn wsX2_addWord (wsV RX2 53 RX2 yX2_hasRoom wsX2_hasRoom) := goodIn_app (goodIn_of _ (by decide +kernel)) ggX2_addWord_X2_hasRoom
set_option maxRecDepth 20000 in
theorem ggX2_addWord_X2_bitsOf : GoodIn wsX2_addWord wsX2_bitsOf := goodIn_r _ [21, 2, 22, 23, 24, 25, 26, 27, 28, 29, 30, 31, 42, 43, 44, 45, 46] (by decide +kernel) (by decide +kernel)
set_option maxRecDepth 20000 in
theorem gX2_addWord_X2_bitsOf : GoodIn wsX2_addWord (wsV RX2 57 RX2 yX2_bitsOf wsX2_bitsOf) := goodIn_app (goodIn_of _ (by decide +kernel)) ggX2_addWord_X2_bitsOf
set_option maxRecDepth 20000 in
theorem ggX2_addWord_X2_bitsOfWord : GoodIn wsX2_addWord wsX2_bitsOfWord := goodIn_r _ [13, 2, 42, 43, 44, 45, 46] (by decide +kernel) (by decide +kernel)
set_option maxRecDepth 20000 in
theorem gX2_addWord_X2_bitsOfWord : GoodIn wsX2_addWord (wsV RX2 46 RX2 yX2_bitsOfWord wsX2_bitsOfWord) := goodIn_app (goodIn_of _ (by decide +kernel)) ggX2_addWord_X2_bitsOfWord
set_option maxRecDepth 20000 in
theorem ggX2_addWord_X2_putLow : GoodIn wsX2_addWord wsX2_putLow := goodIn_r _ [35, 36, 37, 38, 39, 40, 41, 42, 43, 44, 45, 46] (by decide +kernel) (by decide +kernel)
set_option maxRecDepth 20000 in
theorem gX2_addWord_X2_putLow : GoodIn wsX2_addWord (wsV RX2 61 RX2 yX2_putLow wsX2_putLow) := goodIn_app (goodIn_of _ (by decide +kernel)) ggX2_addWord_X2_putLow
theorem dX2_addWord_0 : decode cX2_addWord 0 = .ok (.aload_n 0, 1) := by decide +kernel
theorem dX2_addWord_1 : decode cX2_addWord 1 = .ok (.invokevirtual 50, 3) := by decide +kernel
theorem dX2_addWord_4 : decode cX2_addWord 4 = .ok (.istore_n 2, 1) := by decide +kernel
theorem dX2_addWord_5 : decode cX2_addWord 5 = .ok (.aload_n 0, 1) := by decide +kernel
theorem dX2_addWord_6 : decode cX2_addWord 6 = .ok (.iload_n 2, 1) := by decide +kernel
theorem dX2_addWord_7 : decode cX2_addWord 7 = .ok (.invokevirtual 53, 3) := by decide +kernel
theorem dX2_addWord_10 : decode cX2_addWord 10 = .ok (.ifCond .eq 12, 3) := by decide +kernel
theorem dX2_addWord_13 : decode cX2_addWord 13 = .ok (.aload_n 0, 1) := by decide +kernel
theorem dX2_addWord_14 : decode cX2_addWord 14 = .ok (.getfield 43, 3) := by decide +kernel
theorem dX2_addWord_17 : decode cX2_addWord 17 = .ok (.bipush 37, 2) := by decide +kernel
theorem dX2_addWord_19 : decode cX2_addWord 19 = .ok (.if_icmp .lt 5, 3) := by decide +kernel
theorem dX2_addWord_22 : decode cX2_addWord 22 = .ok (.iconst 0, 1) := by decide +kernel
theorem dX2_addWord_23 : decode cX2_addWord 23 = .ok (.ireturn, 1) := by decide +kernel
theorem dX2_addWord_24 : decode cX2_addWord 24 = .ok (.aload_n 0, 1) := by decide +kernel
theorem dX2_addWord_25 : decode cX2_addWord 25 = .ok (.iload_n 1, 1) := by decide +kernel
theorem dX2_addWord_26 : decode cX2_addWord 26 = .ok (.invokevirtual 57, 3) := by decide +kernel
theorem dX2_addWord_29 : decode cX2_addWord 29 = .ok (.istore_n 3, 1) := by decide +kernel
theorem dX2_addWord_30 : decode cX2_addWord 30 = .ok (.aload_n 0, 1) := by decide +kernel
theorem dX2_addWord_31 : decode cX2_addWord 31 = .ok (.getfield 19, 3) := by decide +kernel
theorem dX2_addWord_34 : decode cX2_addWord 34 = .ok (.iconst 0, 1) := by decide +kernel
theorem dX2_addWord_35 : decode cX2_addWord 35 = .ok (.iaload, 1) := by decide +kernel
theorem dX2_addWord_36 : decode cX2_addWord 36 = .ok (.istore 4, 2) := by decide +kernel
theorem dX2_addWord_38 : decode cX2_addWord 38 = .ok (.aload_n 0, 1) := by decide +kernel
theorem dX2_addWord_39 : decode cX2_addWord 39 = .ok (.invokevirtual 46, 3) := by decide +kernel
theorem dX2_addWord_42 : decode cX2_addWord 42 = .ok (.istore 5, 2) := by decide +kernel
theorem dX2_addWord_44 : decode cX2_addWord 44 = .ok (.iconst 0, 1) := by decide +kernel
theorem dX2_addWord_45 : decode cX2_addWord 45 = .ok (.istore 6, 2) := by decide +kernel
theorem dX2_addWord_47 : decode cX2_addWord 47 = .ok (.iload 6, 2) := by decide +kernel
theorem dX2_addWord_49 : decode cX2_addWord 49 = .ok (.iload 5, 2) := by decide +kernel
theorem dX2_addWord_51 : decode cX2_addWord 51 = .ok (.if_icmp .ge 50, 3) := by decide +kernel
theorem dX2_addWord_54 : decode cX2_addWord 54 = .ok (.iload_n 3, 1) := by decide +kernel
theorem dX2_addWord_55 : decode cX2_addWord 55 = .ok (.iload 6, 2) := by decide +kernel
theorem dX2_addWord_57 : decode cX2_addWord 57 = .ok (.ishr, 1) := by decide +kernel
theorem dX2_addWord_58 : decode cX2_addWord 58 = .ok (.iconst 1, 1) := by decide +kernel
theorem dX2_addWord_59 : decode cX2_addWord 59 = .ok (.iand, 1) := by decide +kernel
theorem dX2_addWord_60 : decode cX2_addWord 60 = .ok (.ifCond .ne 35, 3) := by decide +kernel
theorem dX2_addWord_63 : decode cX2_addWord 63 = .ok (.aload_n 0, 1) := by decide +kernel
theorem dX2_addWord_64 : decode cX2_addWord 64 = .ok (.aload_n 0, 1) := by decide +kernel
theorem dX2_addWord_65 : decode cX2_addWord 65 = .ok (.getfield 39, 3) := by decide +kernel
theorem dX2_addWord_68 : decode cX2_addWord 68 = .ok (.iload 6, 2) := by decide +kernel
theorem dX2_addWord_70 : decode cX2_addWord 70 = .ok (.iload 4, 2) := by decide +kernel
theorem dX2_addWord_72 : decode cX2_addWord 72 = .ok (.imul, 1) := by decide +kernel
theorem dX2_addWord_73 : decode cX2_addWord 73 = .ok (.bipush 16, 2) := by decide +kernel
theorem dX2_addWord_75 : decode cX2_addWord 75 = .ok (.idiv, 1) := by decide +kernel
theorem dX2_addWord_76 : decode cX2_addWord 76 = .ok (.iadd, 1) := by decide +kernel
theorem dX2_addWord_77 : decode cX2_addWord 77 = .ok (.aload_n 0, 1) := by decide +kernel
theorem dX2_addWord_78 : decode cX2_addWord 78 = .ok (.getfield 39, 3) := by decide +kernel
theorem dX2_addWord_81 : decode cX2_addWord 81 = .ok (.iload 6, 2) := by decide +kernel
theorem dX2_addWord_83 : decode cX2_addWord 83 = .ok (.iconst 1, 1) := by decide +kernel
theorem dX2_addWord_84 : decode cX2_addWord 84 = .ok (.iadd, 1) := by decide +kernel
theorem dX2_addWord_85 : decode cX2_addWord 85 = .ok (.iload 4, 2) := by decide +kernel
theorem dX2_addWord_87 : decode cX2_addWord 87 = .ok (.imul, 1) := by decide +kernel
theorem dX2_addWord_88 : decode cX2_addWord 88 = .ok (.bipush 16, 2) := by decide +kernel
theorem dX2_addWord_90 : decode cX2_addWord 90 = .ok (.idiv, 1) := by decide +kernel
theorem dX2_addWord_91 : decode cX2_addWord 91 = .ok (.iadd, 1) := by decide +kernel
theorem dX2_addWord_92 : decode cX2_addWord 92 = .ok (.invokevirtual 61, 3) := by decide +kernel
theorem dX2_addWord_95 : decode cX2_addWord 95 = .ok (.iinc 6 1, 3) := by decide +kernel
theorem dX2_addWord_98 : decode cX2_addWord 98 = .ok (.goto (-51), 3) := by decide +kernel
theorem dX2_addWord_101 : decode cX2_addWord 101 = .ok (.aload_n 0, 1) := by decide +kernel
theorem dX2_addWord_102 : decode cX2_addWord 102 = .ok (.getfield 15, 3) := by decide +kernel
theorem dX2_addWord_105 : decode cX2_addWord 105 = .ok (.aload_n 0, 1) := by decide +kernel
theorem dX2_addWord_106 : decode cX2_addWord 106 = .ok (.getfield 43, 3) := by decide +kernel
theorem dX2_addWord_109 : decode cX2_addWord 109 = .ok (.iload_n 1, 1) := by decide +kernel
theorem dX2_addWord_110 : decode cX2_addWord 110 = .ok (.iastore, 1) := by decide +kernel
theorem dX2_addWord_111 : decode cX2_addWord 111 = .ok (.aload_n 0, 1) := by decide +kernel
theorem dX2_addWord_112 : decode cX2_addWord 112 = .ok (.dup, 1) := by decide +kernel
theorem dX2_addWord_113 : decode cX2_addWord 113 = .ok (.getfield 43, 3) := by decide +kernel
theorem dX2_addWord_116 : decode cX2_addWord 116 = .ok (.iconst 1, 1) := by decide +kernel
theorem dX2_addWord_117 : decode cX2_addWord 117 = .ok (.iadd, 1) := by decide +kernel
theorem dX2_addWord_118 : decode cX2_addWord 118 = .ok (.putfield 43, 3) := by decide +kernel
theorem dX2_addWord_121 : decode cX2_addWord 121 = .ok (.aload_n 0, 1) := by decide +kernel
theorem dX2_addWord_122 : decode cX2_addWord 122 = .ok (.dup, 1) := by decide +kernel
theorem dX2_addWord_123 : decode cX2_addWord 123 = .ok (.getfield 39, 3) := by decide +kernel
theorem dX2_addWord_126 : decode cX2_addWord 126 = .ok (.iload_n 2, 1) := by decide +kernel
theorem dX2_addWord_127 : decode cX2_addWord 127 = .ok (.iadd, 1) := by decide +kernel
theorem dX2_addWord_128 : decode cX2_addWord 128 = .ok (.putfield 39, 3) := by decide +kernel
theorem dX2_addWord_131 : decode cX2_addWord 131 = .ok (.iconst 1, 1) := by decide +kernel
theorem dX2_addWord_132 : decode cX2_addWord 132 = .ok (.ireturn, 1) := by decide +kernel
set_option maxRecDepth 20000 in
theorem ggX2_addStretch_X2_hasRoom : GoodIn wsX2_addStretch wsX2_hasRoom := goodIn_r _ [6, 1, 17, 18, 19, 20, 21] (by decide +kernel) (by decide +kernel)
set_option maxRecDepth 20000 in
theorem gX2_addStretch_X2_hasRoom : GoodIn wsX2_addStretch (wsV RX2 53 RX2 yX2_hasRoom wsX2_hasRoom) := goodIn_app (goodIn_of _ (by decide +kernel)) ggX2_addStretch_X2_hasRoom
set_option maxRecDepth 20000 in
theorem ggX2_addStretch_X2_putLow : GoodIn wsX2_addStretch wsX2_putLow := goodIn_r _ [10, 11, 12, 13, 14, 15, 16, 17, 18, 19, 20, 21] (by decide +kernel) (by decide +kernel)
set_option maxRecDepth 20000 in
theorem gX2_addStretch_X2_putLow : GoodIn wsX2_addStretch (wsV RX2 61 RX2 yX2_putLow wsX2_putLow) := goodIn_app (goodIn_of _ (by decide +kernel)) ggX2_addStretch_X2_putLow
theorem dX2_addStretch_0 : decode cX2_addStretch 0 = .ok (.aload_n 0, 1) := by decide +kernel
theorem dX2_addStretch_1 : decode cX2_addStretch 1 = .ok (.iload_n 2, 1) := by decide +kernel
theorem dX2_addStretch_2 : decode cX2_addStretch 2 = .ok (.invokevirtual 53, 3) := by decide +kernel
theorem dX2_addStretch_5 : decode cX2_addStretch 5 = .ok (.ifCond .ne 5, 3) := by decide +kernel
theorem dX2_addStretch_8 : decode cX2_addStretch 8 = .ok (.iconst 0, 1) := by decide +kernel
theorem dX2_addStretch_9 : decode cX2_addStretch 9 = .ok (.ireturn, 1) := by decide +kernel
theorem dX2_addStretch_10 : decode cX2_addStretch 10 = .ok (.iload_n 1, 1) := by decide +kernel
theorem dX2_addStretch_11 : decode cX2_addStretch 11 = .ok (.ifCond .ne 17, 3) := by decide +kernel
theorem dX2_addStretch_14 : decode cX2_addStretch 14 = .ok (.aload_n 0, 1) := by decide +kernel
theorem dX2_addStretch_15 : decode cX2_addStretch 15 = .ok (.aload_n 0, 1) := by decide +kernel
theorem dX2_addStretch_16 : decode cX2_addStretch 16 = .ok (.getfield 39, 3) := by decide +kernel
theorem dX2_addStretch_19 : decode cX2_addStretch 19 = .ok (.aload_n 0, 1) := by decide +kernel
theorem dX2_addStretch_20 : decode cX2_addStretch 20 = .ok (.getfield 39, 3) := by decide +kernel
theorem dX2_addStretch_23 : decode cX2_addStretch 23 = .ok (.iload_n 2, 1) := by decide +kernel
theorem dX2_addStretch_24 : decode cX2_addStretch 24 = .ok (.iadd, 1) := by decide +kernel
theorem dX2_addStretch_25 : decode cX2_addStretch 25 = .ok (.invokevirtual 61, 3) := by decide +kernel
theorem dX2_addStretch_28 : decode cX2_addStretch 28 = .ok (.aload_n 0, 1) := by decide +kernel
theorem dX2_addStretch_29 : decode cX2_addStretch 29 = .ok (.dup, 1) := by decide +kernel
theorem dX2_addStretch_30 : decode cX2_addStretch 30 = .ok (.getfield 39, 3) := by decide +kernel
theorem dX2_addStretch_33 : decode cX2_addStretch 33 = .ok (.iload_n 2, 1) := by decide +kernel
theorem dX2_addStretch_34 : decode cX2_addStretch 34 = .ok (.iadd, 1) := by decide +kernel
theorem dX2_addStretch_35 : decode cX2_addStretch 35 = .ok (.putfield 39, 3) := by decide +kernel
theorem dX2_addStretch_38 : decode cX2_addStretch 38 = .ok (.iconst 1, 1) := by decide +kernel
theorem dX2_addStretch_39 : decode cX2_addStretch 39 = .ok (.ireturn, 1) := by decide +kernel
set_option maxRecDepth 20000 in
theorem ggX2_flip_X2_levelAt : GoodIn wsX2_flip wsX2_levelAt := goodIn_r _ [11, 5, 6, 12, 13, 14, 15, 16] (by decide +kernel) (by decide +kernel)
set_option maxRecDepth 20000 in
theorem gX2_flip_X2_levelAt : GoodIn wsX2_flip (wsV RX2 71 RX2 yX2_levelAt wsX2_levelAt) := goodIn_app (goodIn_of _ (by decide +kernel)) ggX2_flip_X2_levelAt
theorem dX2_flip_0 : decode cX2_flip 0 = .ok (.iconst 0, 1) := by decide +kernel
theorem dX2_flip_1 : decode cX2_flip 1 = .ok (.istore_n 3, 1) := by decide +kernel
theorem dX2_flip_2 : decode cX2_flip 2 = .ok (.iload_n 1, 1) := by decide +kernel
theorem dX2_flip_3 : decode cX2_flip 3 = .ok (.iconst 0, 1) := by decide +kernel
theorem dX2_flip_4 : decode cX2_flip 4 = .ok (.invokestatic 65, 3) := by decide +kernel
theorem dX2_flip_7 : decode cX2_flip 7 = .ok (.istore 4, 2) := by decide +kernel
theorem dX2_flip_9 : decode cX2_flip 9 = .ok (.iload 4, 2) := by decide +kernel
theorem dX2_flip_11 : decode cX2_flip 11 = .ok (.iload_n 1, 1) := by decide +kernel
theorem dX2_flip_12 : decode cX2_flip 12 = .ok (.iload_n 2, 1) := by decide +kernel
theorem dX2_flip_13 : decode cX2_flip 13 = .ok (.iadd, 1) := by decide +kernel
theorem dX2_flip_14 : decode cX2_flip 14 = .ok (.if_icmp .ge 47, 3) := by decide +kernel
theorem dX2_flip_17 : decode cX2_flip 17 = .ok (.iload 4, 2) := by decide +kernel
theorem dX2_flip_19 : decode cX2_flip 19 = .ok (.aload_n 0, 1) := by decide +kernel
theorem dX2_flip_20 : decode cX2_flip 20 = .ok (.getfield 39, 3) := by decide +kernel
theorem dX2_flip_23 : decode cX2_flip 23 = .ok (.if_icmp .ge 38, 3) := by decide +kernel
theorem dX2_flip_26 : decode cX2_flip 26 = .ok (.aload_n 0, 1) := by decide +kernel
theorem dX2_flip_27 : decode cX2_flip 27 = .ok (.getfield 11, 3) := by decide +kernel
theorem dX2_flip_30 : decode cX2_flip 30 = .ok (.iload 4, 2) := by decide +kernel
theorem dX2_flip_32 : decode cX2_flip 32 = .ok (.bipush 64, 2) := by decide +kernel
theorem dX2_flip_34 : decode cX2_flip 34 = .ok (.idiv, 1) := by decide +kernel
theorem dX2_flip_35 : decode cX2_flip 35 = .ok (.dup2, 1) := by decide +kernel
theorem dX2_flip_36 : decode cX2_flip 36 = .ok (.laload, 1) := by decide +kernel
theorem dX2_flip_37 : decode cX2_flip 37 = .ok (.lconst 1, 1) := by decide +kernel
theorem dX2_flip_38 : decode cX2_flip 38 = .ok (.iload 4, 2) := by decide +kernel
theorem dX2_flip_40 : decode cX2_flip 40 = .ok (.bipush 64, 2) := by decide +kernel
theorem dX2_flip_42 : decode cX2_flip 42 = .ok (.irem, 1) := by decide +kernel
theorem dX2_flip_43 : decode cX2_flip 43 = .ok (.lshl, 1) := by decide +kernel
theorem dX2_flip_44 : decode cX2_flip 44 = .ok (.lxor, 1) := by decide +kernel
theorem dX2_flip_45 : decode cX2_flip 45 = .ok (.lastore, 1) := by decide +kernel
theorem dX2_flip_46 : decode cX2_flip 46 = .ok (.iload_n 3, 1) := by decide +kernel
theorem dX2_flip_47 : decode cX2_flip 47 = .ok (.aload_n 0, 1) := by decide +kernel
theorem dX2_flip_48 : decode cX2_flip 48 = .ok (.iload 4, 2) := by decide +kernel
theorem dX2_flip_50 : decode cX2_flip 50 = .ok (.invokevirtual 71, 3) := by decide +kernel
theorem dX2_flip_53 : decode cX2_flip 53 = .ok (.iadd, 1) := by decide +kernel
theorem dX2_flip_54 : decode cX2_flip 54 = .ok (.istore_n 3, 1) := by decide +kernel
theorem dX2_flip_55 : decode cX2_flip 55 = .ok (.iinc 4 1, 3) := by decide +kernel
theorem dX2_flip_58 : decode cX2_flip 58 = .ok (.goto (-49), 3) := by decide +kernel
theorem dX2_flip_61 : decode cX2_flip 61 = .ok (.iload_n 3, 1) := by decide +kernel
theorem dX2_flip_62 : decode cX2_flip 62 = .ok (.ireturn, 1) := by decide +kernel
theorem dX2_levelAt_0 : decode cX2_levelAt 0 = .ok (.iload_n 1, 1) := by decide +kernel
theorem dX2_levelAt_1 : decode cX2_levelAt 1 = .ok (.ifCond .lt 11, 3) := by decide +kernel
theorem dX2_levelAt_4 : decode cX2_levelAt 4 = .ok (.iload_n 1, 1) := by decide +kernel
theorem dX2_levelAt_5 : decode cX2_levelAt 5 = .ok (.aload_n 0, 1) := by decide +kernel
theorem dX2_levelAt_6 : decode cX2_levelAt 6 = .ok (.getfield 39, 3) := by decide +kernel
theorem dX2_levelAt_9 : decode cX2_levelAt 9 = .ok (.if_icmp .lt 5, 3) := by decide +kernel
theorem dX2_levelAt_12 : decode cX2_levelAt 12 = .ok (.iconst 1, 1) := by decide +kernel
theorem dX2_levelAt_13 : decode cX2_levelAt 13 = .ok (.ireturn, 1) := by decide +kernel
theorem dX2_levelAt_14 : decode cX2_levelAt 14 = .ok (.aload_n 0, 1) := by decide +kernel
theorem dX2_levelAt_15 : decode cX2_levelAt 15 = .ok (.getfield 11, 3) := by decide +kernel
theorem dX2_levelAt_18 : decode cX2_levelAt 18 = .ok (.iload_n 1, 1) := by decide +kernel
theorem dX2_levelAt_19 : decode cX2_levelAt 19 = .ok (.bipush 64, 2) := by decide +kernel
theorem dX2_levelAt_21 : decode cX2_levelAt 21 = .ok (.idiv, 1) := by decide +kernel
theorem dX2_levelAt_22 : decode cX2_levelAt 22 = .ok (.laload, 1) := by decide +kernel
theorem dX2_levelAt_23 : decode cX2_levelAt 23 = .ok (.iload_n 1, 1) := by decide +kernel
theorem dX2_levelAt_24 : decode cX2_levelAt 24 = .ok (.bipush 64, 2) := by decide +kernel
theorem dX2_levelAt_26 : decode cX2_levelAt 26 = .ok (.irem, 1) := by decide +kernel
theorem dX2_levelAt_27 : decode cX2_levelAt 27 = .ok (.lushr, 1) := by decide +kernel
theorem dX2_levelAt_28 : decode cX2_levelAt 28 = .ok (.lconst 1, 1) := by decide +kernel
theorem dX2_levelAt_29 : decode cX2_levelAt 29 = .ok (.land, 1) := by decide +kernel
theorem dX2_levelAt_30 : decode cX2_levelAt 30 = .ok (.l2i, 1) := by decide +kernel
theorem dX2_levelAt_31 : decode cX2_levelAt 31 = .ok (.ireturn, 1) := by decide +kernel
set_option maxRecDepth 20000 in
theorem ggX2_nextFall_X2_fallsIn : GoodIn wsX2_nextFall wsX2_fallsIn := goodIn_r _ [11, 12, 5, 20, 21, 22, 23, 24] (by decide +kernel) (by decide +kernel)
set_option maxRecDepth 20000 in
theorem gX2_nextFall_X2_fallsIn : GoodIn wsX2_nextFall (wsV RX2 74 RX2 yX2_fallsIn wsX2_fallsIn) := goodIn_app (goodIn_of _ (by decide +kernel)) ggX2_nextFall_X2_fallsIn
set_option maxRecDepth 20000 in
theorem ggX2_nextFall_J13_bitCount_95d88 : GoodIn wsX2_nextFall wsJ13_bitCount_95d88 := goodIn_r _ [16, 17, 18, 19] (by decide +kernel) (by decide +kernel)
set_option maxRecDepth 20000 in
theorem gX2_nextFall_J13_bitCount_95d88 : GoodIn wsX2_nextFall (va_wsS RX2 78 yJ13_bitCount_95d88 wsJ13_bitCount_95d88) := goodIn_app (goodIn_of _ (by decide +kernel)) ggX2_nextFall_J13_bitCount_95d88
theorem dX2_nextFall_0 : decode cX2_nextFall 0 = .ok (.iload_n 1, 1) := by decide +kernel
theorem dX2_nextFall_1 : decode cX2_nextFall 1 = .ok (.iconst 0, 1) := by decide +kernel
theorem dX2_nextFall_2 : decode cX2_nextFall 2 = .ok (.invokestatic 65, 3) := by decide +kernel
theorem dX2_nextFall_5 : decode cX2_nextFall 5 = .ok (.istore_n 2, 1) := by decide +kernel
theorem dX2_nextFall_6 : decode cX2_nextFall 6 = .ok (.iload_n 2, 1) := by decide +kernel
theorem dX2_nextFall_7 : decode cX2_nextFall 7 = .ok (.bipush 64, 2) := by decide +kernel
theorem dX2_nextFall_9 : decode cX2_nextFall 9 = .ok (.idiv, 1) := by decide +kernel
theorem dX2_nextFall_10 : decode cX2_nextFall 10 = .ok (.istore_n 3, 1) := by decide +kernel
theorem dX2_nextFall_11 : decode cX2_nextFall 11 = .ok (.iload_n 3, 1) := by decide +kernel
theorem dX2_nextFall_12 : decode cX2_nextFall 12 = .ok (.istore 4, 2) := by decide +kernel
theorem dX2_nextFall_14 : decode cX2_nextFall 14 = .ok (.iload 4, 2) := by decide +kernel
theorem dX2_nextFall_16 : decode cX2_nextFall 16 = .ok (.bipush 24, 2) := by decide +kernel
theorem dX2_nextFall_18 : decode cX2_nextFall 18 = .ok (.if_icmp .ge 65, 3) := by decide +kernel
theorem dX2_nextFall_21 : decode cX2_nextFall 21 = .ok (.aload_n 0, 1) := by decide +kernel
theorem dX2_nextFall_22 : decode cX2_nextFall 22 = .ok (.iload 4, 2) := by decide +kernel
theorem dX2_nextFall_24 : decode cX2_nextFall 24 = .ok (.invokevirtual 74, 3) := by decide +kernel
theorem dX2_nextFall_27 : decode cX2_nextFall 27 = .ok (.lstore 5, 2) := by decide +kernel
theorem dX2_nextFall_29 : decode cX2_nextFall 29 = .ok (.iload 4, 2) := by decide +kernel
theorem dX2_nextFall_31 : decode cX2_nextFall 31 = .ok (.iload_n 3, 1) := by decide +kernel
theorem dX2_nextFall_32 : decode cX2_nextFall 32 = .ok (.if_icmp .ne 16, 3) := by decide +kernel
theorem dX2_nextFall_35 : decode cX2_nextFall 35 = .ok (.lload 5, 2) := by decide +kernel
theorem dX2_nextFall_37 : decode cX2_nextFall 37 = .ok (.ldc2_w 22, 3) := by decide +kernel
theorem dX2_nextFall_40 : decode cX2_nextFall 40 = .ok (.iload_n 2, 1) := by decide +kernel
theorem dX2_nextFall_41 : decode cX2_nextFall 41 = .ok (.bipush 64, 2) := by decide +kernel
theorem dX2_nextFall_43 : decode cX2_nextFall 43 = .ok (.irem, 1) := by decide +kernel
theorem dX2_nextFall_44 : decode cX2_nextFall 44 = .ok (.lshl, 1) := by decide +kernel
/-! ===== END printed ===== -/
