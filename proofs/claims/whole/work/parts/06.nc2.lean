theorem dX5_ofKind_4 : decode cX5_ofKind 4 = .ok (.iload_n 3, 1) := by decide +kernel
theorem dX5_ofKind_5 : decode cX5_ofKind 5 = .ok (.aload_n 0, 1) := by decide +kernel
theorem dX5_ofKind_6 : decode cX5_ofKind 6 = .ok (.getfield 109, 3) := by decide +kernel
theorem dX5_ofKind_9 : decode cX5_ofKind 9 = .ok (.if_icmp .ge 27, 3) := by decide +kernel
theorem dX5_ofKind_12 : decode cX5_ofKind 12 = .ok (.iload_n 2, 1) := by decide +kernel
theorem dX5_ofKind_13 : decode cX5_ofKind 13 = .ok (.aload_n 0, 1) := by decide +kernel
theorem dX5_ofKind_14 : decode cX5_ofKind 14 = .ok (.getfield 31, 3) := by decide +kernel
theorem dX5_ofKind_17 : decode cX5_ofKind 17 = .ok (.iload_n 3, 1) := by decide +kernel
theorem dX5_ofKind_18 : decode cX5_ofKind 18 = .ok (.iaload, 1) := by decide +kernel
theorem dX5_ofKind_19 : decode cX5_ofKind 19 = .ok (.iload_n 1, 1) := by decide +kernel
theorem dX5_ofKind_20 : decode cX5_ofKind 20 = .ok (.if_icmp .ne 7, 3) := by decide +kernel
theorem dX5_ofKind_23 : decode cX5_ofKind 23 = .ok (.iconst 1, 1) := by decide +kernel
theorem dX5_ofKind_24 : decode cX5_ofKind 24 = .ok (.goto 4, 3) := by decide +kernel
theorem dX5_ofKind_27 : decode cX5_ofKind 27 = .ok (.iconst 0, 1) := by decide +kernel
theorem dX5_ofKind_28 : decode cX5_ofKind 28 = .ok (.iadd, 1) := by decide +kernel
theorem dX5_ofKind_29 : decode cX5_ofKind 29 = .ok (.istore_n 2, 1) := by decide +kernel
theorem dX5_ofKind_30 : decode cX5_ofKind 30 = .ok (.iinc 3 1, 3) := by decide +kernel
theorem dX5_ofKind_33 : decode cX5_ofKind 33 = .ok (.goto (-29), 3) := by decide +kernel
theorem dX5_ofKind_36 : decode cX5_ofKind 36 = .ok (.iload_n 2, 1) := by decide +kernel
theorem dX5_ofKind_37 : decode cX5_ofKind 37 = .ok (.ireturn, 1) := by decide +kernel
theorem dX5_isWell_0 : decode cX5_isWell 0 = .ok (.aload_n 0, 1) := by decide +kernel
theorem dX5_isWell_1 : decode cX5_isWell 1 = .ok (.getfield 109, 3) := by decide +kernel
theorem dX5_isWell_4 : decode cX5_isWell 4 = .ok (.aload_n 0, 1) := by decide +kernel
theorem dX5_isWell_5 : decode cX5_isWell 5 = .ok (.getfield 7, 3) := by decide +kernel
theorem dX5_isWell_8 : decode cX5_isWell 8 = .ok (.bipush 6, 2) := by decide +kernel
theorem dX5_isWell_10 : decode cX5_isWell 10 = .ok (.iaload, 1) := by decide +kernel
theorem dX5_isWell_11 : decode cX5_isWell 11 = .ok (.if_icmp .ne 7, 3) := by decide +kernel
theorem dX5_isWell_14 : decode cX5_isWell 14 = .ok (.iconst 1, 1) := by decide +kernel
theorem dX5_isWell_15 : decode cX5_isWell 15 = .ok (.goto 4, 3) := by decide +kernel
theorem dX5_isWell_18 : decode cX5_isWell 18 = .ok (.iconst 0, 1) := by decide +kernel
theorem dX5_isWell_19 : decode cX5_isWell 19 = .ok (.istore_n 1, 1) := by decide +kernel
theorem dX5_isWell_20 : decode cX5_isWell 20 = .ok (.iconst 0, 1) := by decide +kernel
theorem dX5_isWell_21 : decode cX5_isWell 21 = .ok (.istore_n 2, 1) := by decide +kernel
theorem dX5_isWell_22 : decode cX5_isWell 22 = .ok (.iload_n 2, 1) := by decide +kernel
theorem dX5_isWell_23 : decode cX5_isWell 23 = .ok (.aload_n 0, 1) := by decide +kernel
theorem dX5_isWell_24 : decode cX5_isWell 24 = .ok (.getfield 109, 3) := by decide +kernel
theorem dX5_isWell_27 : decode cX5_isWell 27 = .ok (.if_icmp .ge 46, 3) := by decide +kernel
theorem dX5_isWell_30 : decode cX5_isWell 30 = .ok (.iload_n 1, 1) := by decide +kernel
theorem dX5_isWell_31 : decode cX5_isWell 31 = .ok (.ifCond .eq 42, 3) := by decide +kernel
theorem dX5_isWell_34 : decode cX5_isWell 34 = .ok (.aload_n 0, 1) := by decide +kernel
theorem dX5_isWell_35 : decode cX5_isWell 35 = .ok (.getfield 31, 3) := by decide +kernel
theorem dX5_isWell_38 : decode cX5_isWell 38 = .ok (.iload_n 2, 1) := by decide +kernel
theorem dX5_isWell_39 : decode cX5_isWell 39 = .ok (.iaload, 1) := by decide +kernel
theorem dX5_isWell_40 : decode cX5_isWell 40 = .ok (.ifCond .ne 25, 3) := by decide +kernel
theorem dX5_isWell_43 : decode cX5_isWell 43 = .ok (.aload_n 0, 1) := by decide +kernel
theorem dX5_isWell_44 : decode cX5_isWell 44 = .ok (.getfield 34, 3) := by decide +kernel
theorem dX5_isWell_47 : decode cX5_isWell 47 = .ok (.iload_n 2, 1) := by decide +kernel
theorem dX5_isWell_48 : decode cX5_isWell 48 = .ok (.iaload, 1) := by decide +kernel
theorem dX5_isWell_49 : decode cX5_isWell 49 = .ok (.aload_n 0, 1) := by decide +kernel
theorem dX5_isWell_50 : decode cX5_isWell 50 = .ok (.getfield 7, 3) := by decide +kernel
theorem dX5_isWell_53 : decode cX5_isWell 53 = .ok (.bipush 7, 2) := by decide +kernel
theorem dX5_isWell_55 : decode cX5_isWell 55 = .ok (.iload_n 2, 1) := by decide +kernel
theorem dX5_isWell_56 : decode cX5_isWell 56 = .ok (.iadd, 1) := by decide +kernel
theorem dX5_isWell_57 : decode cX5_isWell 57 = .ok (.iaload, 1) := by decide +kernel
theorem dX5_isWell_58 : decode cX5_isWell 58 = .ok (.if_icmp .ne 7, 3) := by decide +kernel
theorem dX5_isWell_61 : decode cX5_isWell 61 = .ok (.iconst 1, 1) := by decide +kernel
theorem dX5_isWell_62 : decode cX5_isWell 62 = .ok (.goto 4, 3) := by decide +kernel
theorem dX5_isWell_65 : decode cX5_isWell 65 = .ok (.iconst 0, 1) := by decide +kernel
theorem dX5_isWell_66 : decode cX5_isWell 66 = .ok (.istore_n 1, 1) := by decide +kernel
theorem dX5_isWell_67 : decode cX5_isWell 67 = .ok (.iinc 2 1, 3) := by decide +kernel
theorem dX5_isWell_70 : decode cX5_isWell 70 = .ok (.goto (-48), 3) := by decide +kernel
theorem dX5_isWell_73 : decode cX5_isWell 73 = .ok (.iload_n 1, 1) := by decide +kernel
theorem dX5_isWell_74 : decode cX5_isWell 74 = .ok (.ireturn, 1) := by decide +kernel
set_option maxRecDepth 20000 in
theorem ggX5_isWellWith_X5_receive : GoodIn wsX5_isWellWith wsX5_receive := goodIn_r _ [5, 6, 7, 8, 9, 10, 11, 12, 13, 14, 15, 4, 16, 17, 18, 19, 20, 21, 22, 23, 24, 25, 26, 27, 28, 29, 30, 31, 32, 33, 34, 35, 36, 37, 42, 43, 44, 45, 46, 47, 48, 49, 50, 51, 52, 53, 54, 55, 56, 57, 58, 59, 60, 61] (by decide +kernel) (by decide +kernel)
set_option maxRecDepth 20000 in
theorem gX5_isWellWith_X5_receive : GoodIn wsX5_isWellWith (wsV RX5 127 RX5 yX5_receive wsX5_receive) := goodIn_app (goodIn_of _ (by decide +kernel)) ggX5_isWellWith_X5_receive
set_option maxRecDepth 20000 in
theorem ggX5_isWellWith_X5_isWell : GoodIn wsX5_isWellWith wsX5_isWell := goodIn_r _ [41, 6, 9, 11, 25, 42, 43, 44, 45, 46, 47, 48, 49, 50, 51, 52, 53, 54, 55, 56, 57, 58, 59, 60, 61] (by decide +kernel) (by decide +kernel)
set_option maxRecDepth 20000 in
theorem gX5_isWellWith_X5_isWell : GoodIn wsX5_isWellWith (wsV RX5 131 RX5 yX5_isWell wsX5_isWell) := goodIn_app (goodIn_of _ (by decide +kernel)) ggX5_isWellWith_X5_isWell
theorem dX5_isWellWith_0 : decode cX5_isWellWith 0 = .ok (.aload_n 0, 1) := by decide +kernel
theorem dX5_isWellWith_1 : decode cX5_isWellWith 1 = .ok (.iload_n 1, 1) := by decide +kernel
theorem dX5_isWellWith_2 : decode cX5_isWellWith 2 = .ok (.invokevirtual 127, 3) := by decide +kernel
theorem dX5_isWellWith_5 : decode cX5_isWellWith 5 = .ok (.aload_n 0, 1) := by decide +kernel
theorem dX5_isWellWith_6 : decode cX5_isWellWith 6 = .ok (.invokevirtual 131, 3) := by decide +kernel
theorem dX5_isWellWith_9 : decode cX5_isWellWith 9 = .ok (.ireturn, 1) := by decide +kernel
set_option maxRecDepth 20000 in
theorem ggX5_fallOf_X5_isFall : GoodIn wsX5_fallOf wsX5_isFall := goodIn_r _ [6, 7, 8, 9, 5, 10, 1, 11, 12, 13, 14, 15, 16, 17, 18, 19, 20, 21, 22, 23, 24, 25, 26, 27, 28, 29, 30] (by decide +kernel) (by decide +kernel)
set_option maxRecDepth 20000 in
theorem gX5_fallOf_X5_isFall : GoodIn wsX5_fallOf (wsV RX5 121 RX5 yX5_isFall wsX5_isFall) := goodIn_app (goodIn_of _ (by decide +kernel)) ggX5_fallOf_X5_isFall
theorem dX5_fallOf_0 : decode cX5_fallOf 0 = .ok (.iload_n 1, 1) := by decide +kernel
theorem dX5_fallOf_1 : decode cX5_fallOf 1 = .ok (.istore_n 2, 1) := by decide +kernel
theorem dX5_fallOf_2 : decode cX5_fallOf 2 = .ok (.iconst 0, 1) := by decide +kernel
theorem dX5_fallOf_3 : decode cX5_fallOf 3 = .ok (.istore_n 3, 1) := by decide +kernel
theorem dX5_fallOf_4 : decode cX5_fallOf 4 = .ok (.iload_n 3, 1) := by decide +kernel
theorem dX5_fallOf_5 : decode cX5_fallOf 5 = .ok (.aload_n 0, 1) := by decide +kernel
theorem dX5_fallOf_6 : decode cX5_fallOf 6 = .ok (.getfield 7, 3) := by decide +kernel
theorem dX5_fallOf_9 : decode cX5_fallOf 9 = .ok (.iconst 5, 1) := by decide +kernel
theorem dX5_fallOf_10 : decode cX5_fallOf 10 = .ok (.iaload, 1) := by decide +kernel
theorem dX5_fallOf_11 : decode cX5_fallOf 11 = .ok (.if_icmp .ge 26, 3) := by decide +kernel
theorem dX5_fallOf_14 : decode cX5_fallOf 14 = .ok (.aload_n 0, 1) := by decide +kernel
theorem dX5_fallOf_15 : decode cX5_fallOf 15 = .ok (.iload_n 3, 1) := by decide +kernel
theorem dX5_fallOf_16 : decode cX5_fallOf 16 = .ok (.invokevirtual 121, 3) := by decide +kernel
theorem dX5_fallOf_19 : decode cX5_fallOf 19 = .ok (.ifCond .eq 12, 3) := by decide +kernel
theorem dX5_fallOf_22 : decode cX5_fallOf 22 = .ok (.iload_n 2, 1) := by decide +kernel
theorem dX5_fallOf_23 : decode cX5_fallOf 23 = .ok (.ifCond .ne 5, 3) := by decide +kernel
theorem dX5_fallOf_26 : decode cX5_fallOf 26 = .ok (.iload_n 3, 1) := by decide +kernel
theorem dX5_fallOf_27 : decode cX5_fallOf 27 = .ok (.ireturn, 1) := by decide +kernel
theorem dX5_fallOf_28 : decode cX5_fallOf 28 = .ok (.iinc 2 (-1), 3) := by decide +kernel
theorem dX5_fallOf_31 : decode cX5_fallOf 31 = .ok (.iinc 3 1, 3) := by decide +kernel
theorem dX5_fallOf_34 : decode cX5_fallOf 34 = .ok (.goto (-30), 3) := by decide +kernel
theorem dX5_fallOf_37 : decode cX5_fallOf 37 = .ok (.bipush (-5), 2) := by decide +kernel
theorem dX5_fallOf_39 : decode cX5_fallOf 39 = .ok (.ireturn, 1) := by decide +kernel
set_option maxRecDepth 20000 in
theorem ggX5_learned_X5_fallOf : GoodIn wsX5_learned wsX5_fallOf := goodIn_r _ [5, 6, 7, 8, 9, 4, 10, 11, 12, 13, 14, 18, 19, 20, 21, 22, 23, 24, 25, 26, 27, 28, 29, 30, 31, 32, 33, 34, 35, 36, 37] (by decide +kernel) (by decide +kernel)
set_option maxRecDepth 20000 in
theorem gX5_learned_X5_fallOf : GoodIn wsX5_learned (wsV RX5 135 RX5 yX5_fallOf wsX5_fallOf) := goodIn_app (goodIn_of _ (by decide +kernel)) ggX5_learned_X5_fallOf
set_option maxRecDepth 20000 in
theorem ggX5_learned_X5_within : GoodIn wsX5_learned wsX5_within := goodIn_r _ [17] (by decide +kernel) (by decide +kernel)
set_option maxRecDepth 20000 in
theorem gX5_learned_X5_within : GoodIn wsX5_learned (va_wsS RX5 80 yX5_within wsX5_within) := goodIn_app (goodIn_of _ (by decide +kernel)) ggX5_learned_X5_within
theorem dX5_learned_0 : decode cX5_learned 0 = .ok (.aload_n 0, 1) := by decide +kernel
theorem dX5_learned_1 : decode cX5_learned 1 = .ok (.iconst 4, 1) := by decide +kernel
theorem dX5_learned_2 : decode cX5_learned 2 = .ok (.invokevirtual 135, 3) := by decide +kernel
theorem dX5_learned_5 : decode cX5_learned 5 = .ok (.istore_n 1, 1) := by decide +kernel
theorem dX5_learned_6 : decode cX5_learned 6 = .ok (.iload_n 1, 1) := by decide +kernel
theorem dX5_learned_7 : decode cX5_learned 7 = .ok (.bipush (-5), 2) := by decide +kernel
theorem dX5_learned_9 : decode cX5_learned 9 = .ok (.if_icmp .ne 6, 3) := by decide +kernel
theorem dX5_learned_12 : decode cX5_learned 12 = .ok (.bipush (-5), 2) := by decide +kernel
theorem dX5_learned_14 : decode cX5_learned 14 = .ok (.ireturn, 1) := by decide +kernel
theorem dX5_learned_15 : decode cX5_learned 15 = .ok (.iload_n 1, 1) := by decide +kernel
theorem dX5_learned_16 : decode cX5_learned 16 = .ok (.aload_n 0, 1) := by decide +kernel
theorem dX5_learned_17 : decode cX5_learned 17 = .ok (.iconst 0, 1) := by decide +kernel
theorem dX5_learned_18 : decode cX5_learned 18 = .ok (.invokevirtual 135, 3) := by decide +kernel
theorem dX5_learned_21 : decode cX5_learned 21 = .ok (.isub, 1) := by decide +kernel
theorem dX5_learned_22 : decode cX5_learned 22 = .ok (.iconst 4, 1) := by decide +kernel
theorem dX5_learned_23 : decode cX5_learned 23 = .ok (.iadd, 1) := by decide +kernel
theorem dX5_learned_24 : decode cX5_learned 24 = .ok (.bipush 8, 2) := by decide +kernel
theorem dX5_learned_26 : decode cX5_learned 26 = .ok (.idiv, 1) := by decide +kernel
theorem dX5_learned_27 : decode cX5_learned 27 = .ok (.istore_n 2, 1) := by decide +kernel
theorem dX5_learned_28 : decode cX5_learned 28 = .ok (.iload_n 2, 1) := by decide +kernel
theorem dX5_learned_29 : decode cX5_learned 29 = .ok (.iconst 4, 1) := by decide +kernel
theorem dX5_learned_30 : decode cX5_learned 30 = .ok (.bipush 40, 2) := by decide +kernel
theorem dX5_learned_32 : decode cX5_learned 32 = .ok (.invokestatic 80, 3) := by decide +kernel
theorem dX5_learned_35 : decode cX5_learned 35 = .ok (.ifCond .eq 7, 3) := by decide +kernel
theorem dX5_learned_38 : decode cX5_learned 38 = .ok (.iload_n 2, 1) := by decide +kernel
theorem dX5_learned_39 : decode cX5_learned 39 = .ok (.goto 5, 3) := by decide +kernel
theorem dX5_learned_42 : decode cX5_learned 42 = .ok (.bipush (-5), 2) := by decide +kernel
theorem dX5_learned_44 : decode cX5_learned 44 = .ok (.ireturn, 1) := by decide +kernel
theorem dX5_type_0 : decode cX5_type 0 = .ok (.aload_n 0, 1) := by decide +kernel
theorem dX5_type_1 : decode cX5_type 1 = .ok (.getfield 138, 3) := by decide +kernel
theorem dX5_type_4 : decode cX5_type 4 = .ok (.bipush 60, 2) := by decide +kernel
theorem dX5_type_6 : decode cX5_type 6 = .ok (.if_icmp .ne 6, 3) := by decide +kernel
theorem dX5_type_9 : decode cX5_type 9 = .ok (.bipush (-3), 2) := by decide +kernel
theorem dX5_type_11 : decode cX5_type 11 = .ok (.ireturn, 1) := by decide +kernel
theorem dX5_type_12 : decode cX5_type 12 = .ok (.aload_n 0, 1) := by decide +kernel
theorem dX5_type_13 : decode cX5_type 13 = .ok (.getfield 22, 3) := by decide +kernel
theorem dX5_type_16 : decode cX5_type 16 = .ok (.aload_n 0, 1) := by decide +kernel
theorem dX5_type_17 : decode cX5_type 17 = .ok (.getfield 138, 3) := by decide +kernel
theorem dX5_type_20 : decode cX5_type 20 = .ok (.iload_n 1, 1) := by decide +kernel
theorem dX5_type_21 : decode cX5_type 21 = .ok (.iastore, 1) := by decide +kernel
theorem dX5_type_22 : decode cX5_type 22 = .ok (.aload_n 0, 1) := by decide +kernel
theorem dX5_type_23 : decode cX5_type 23 = .ok (.dup, 1) := by decide +kernel
theorem dX5_type_24 : decode cX5_type 24 = .ok (.getfield 138, 3) := by decide +kernel
theorem dX5_type_27 : decode cX5_type 27 = .ok (.iconst 1, 1) := by decide +kernel
theorem dX5_type_28 : decode cX5_type 28 = .ok (.iadd, 1) := by decide +kernel
theorem dX5_type_29 : decode cX5_type 29 = .ok (.putfield 138, 3) := by decide +kernel
theorem dX5_type_32 : decode cX5_type 32 = .ok (.aload_n 0, 1) := by decide +kernel
theorem dX5_type_33 : decode cX5_type 33 = .ok (.getfield 138, 3) := by decide +kernel
theorem dX5_type_36 : decode cX5_type 36 = .ok (.ireturn, 1) := by decide +kernel
theorem dX5_clearText_0 : decode cX5_clearText 0 = .ok (.aload_n 0, 1) := by decide +kernel
theorem dX5_clearText_1 : decode cX5_clearText 1 = .ok (.getfield 138, 3) := by decide +kernel
theorem dX5_clearText_4 : decode cX5_clearText 4 = .ok (.istore_n 1, 1) := by decide +kernel
theorem dX5_clearText_5 : decode cX5_clearText 5 = .ok (.aload_n 0, 1) := by decide +kernel
theorem dX5_clearText_6 : decode cX5_clearText 6 = .ok (.iconst 0, 1) := by decide +kernel
theorem dX5_clearText_7 : decode cX5_clearText 7 = .ok (.putfield 138, 3) := by decide +kernel
theorem dX5_clearText_10 : decode cX5_clearText 10 = .ok (.iload_n 1, 1) := by decide +kernel
theorem dX5_clearText_11 : decode cX5_clearText 11 = .ok (.ireturn, 1) := by decide +kernel
theorem dX5_codeAt_0 : decode cX5_codeAt 0 = .ok (.iload_n 1, 1) := by decide +kernel
theorem dX5_codeAt_1 : decode cX5_codeAt 1 = .ok (.aload_n 0, 1) := by decide +kernel
theorem dX5_codeAt_2 : decode cX5_codeAt 2 = .ok (.getfield 138, 3) := by decide +kernel
theorem dX5_codeAt_5 : decode cX5_codeAt 5 = .ok (.if_icmp .ge 12, 3) := by decide +kernel
theorem dX5_codeAt_8 : decode cX5_codeAt 8 = .ok (.aload_n 0, 1) := by decide +kernel
theorem dX5_codeAt_9 : decode cX5_codeAt 9 = .ok (.getfield 22, 3) := by decide +kernel
theorem dX5_codeAt_12 : decode cX5_codeAt 12 = .ok (.iload_n 1, 1) := by decide +kernel
theorem dX5_codeAt_13 : decode cX5_codeAt 13 = .ok (.iaload, 1) := by decide +kernel
theorem dX5_codeAt_14 : decode cX5_codeAt 14 = .ok (.goto 4, 3) := by decide +kernel
theorem dX5_codeAt_17 : decode cX5_codeAt 17 = .ok (.iconst 0, 1) := by decide +kernel
theorem dX5_codeAt_18 : decode cX5_codeAt 18 = .ok (.ireturn, 1) := by decide +kernel
set_option maxRecDepth 20000 in
theorem ggX5_hex_X5_within : GoodIn wsX5_hex wsX5_within := goodIn_r _ [4] (by decide +kernel) (by decide +kernel)
set_option maxRecDepth 20000 in
theorem gX5_hex_X5_within : GoodIn wsX5_hex (va_wsS RX5 80 yX5_within wsX5_within) := goodIn_app (goodIn_of _ (by decide +kernel)) ggX5_hex_X5_within
theorem dX5_hex_0 : decode cX5_hex 0 = .ok (.iload_n 0, 1) := by decide +kernel
theorem dX5_hex_1 : decode cX5_hex 1 = .ok (.bipush 48, 2) := by decide +kernel
theorem dX5_hex_3 : decode cX5_hex 3 = .ok (.bipush 57, 2) := by decide +kernel
theorem dX5_hex_5 : decode cX5_hex 5 = .ok (.invokestatic 80, 3) := by decide +kernel
theorem dX5_hex_8 : decode cX5_hex 8 = .ok (.ifCond .eq 10, 3) := by decide +kernel
theorem dX5_hex_11 : decode cX5_hex 11 = .ok (.iload_n 0, 1) := by decide +kernel
theorem dX5_hex_12 : decode cX5_hex 12 = .ok (.bipush 48, 2) := by decide +kernel
theorem dX5_hex_14 : decode cX5_hex 14 = .ok (.isub, 1) := by decide +kernel
theorem dX5_hex_15 : decode cX5_hex 15 = .ok (.goto 26, 3) := by decide +kernel
theorem dX5_hex_18 : decode cX5_hex 18 = .ok (.iload_n 0, 1) := by decide +kernel
theorem dX5_hex_19 : decode cX5_hex 19 = .ok (.bipush 97, 2) := by decide +kernel
theorem dX5_hex_21 : decode cX5_hex 21 = .ok (.bipush 102, 2) := by decide +kernel
theorem dX5_hex_23 : decode cX5_hex 23 = .ok (.invokestatic 80, 3) := by decide +kernel
theorem dX5_hex_26 : decode cX5_hex 26 = .ok (.ifCond .eq 13, 3) := by decide +kernel
theorem dX5_hex_29 : decode cX5_hex 29 = .ok (.iload_n 0, 1) := by decide +kernel
theorem dX5_hex_30 : decode cX5_hex 30 = .ok (.bipush 97, 2) := by decide +kernel
theorem dX5_hex_32 : decode cX5_hex 32 = .ok (.isub, 1) := by decide +kernel
theorem dX5_hex_33 : decode cX5_hex 33 = .ok (.bipush 10, 2) := by decide +kernel
theorem dX5_hex_35 : decode cX5_hex 35 = .ok (.iadd, 1) := by decide +kernel
theorem dX5_hex_36 : decode cX5_hex 36 = .ok (.goto 5, 3) := by decide +kernel
theorem dX5_hex_39 : decode cX5_hex 39 = .ok (.bipush (-5), 2) := by decide +kernel
theorem dX5_hex_41 : decode cX5_hex 41 = .ok (.ireturn, 1) := by decide +kernel
set_option maxRecDepth 20000 in
theorem ggX5_readNumber_X5_codeAt : GoodIn wsX5_readNumber wsX5_codeAt := goodIn_r _ [6, 7, 8, 12, 13, 14, 15, 16, 17, 18, 19, 20, 21, 22, 23, 24, 25, 26, 27, 28, 29, 30, 31] (by decide +kernel) (by decide +kernel)
set_option maxRecDepth 20000 in
theorem gX5_readNumber_X5_codeAt : GoodIn wsX5_readNumber (wsV RX5 144 RX5 yX5_codeAt wsX5_codeAt) := goodIn_app (goodIn_of _ (by decide +kernel)) ggX5_readNumber_X5_codeAt
set_option maxRecDepth 20000 in
theorem ggX5_readNumber_X5_within : GoodIn wsX5_readNumber wsX5_within := goodIn_r _ [11] (by decide +kernel) (by decide +kernel)
set_option maxRecDepth 20000 in
theorem gX5_readNumber_X5_within : GoodIn wsX5_readNumber (va_wsS RX5 80 yX5_within wsX5_within) := goodIn_app (goodIn_of _ (by decide +kernel)) ggX5_readNumber_X5_within
theorem dX5_readNumber_0 : decode cX5_readNumber 0 = .ok (.aload_n 0, 1) := by decide +kernel
theorem dX5_readNumber_1 : decode cX5_readNumber 1 = .ok (.aload_n 0, 1) := by decide +kernel
theorem dX5_readNumber_2 : decode cX5_readNumber 2 = .ok (.getfield 141, 3) := by decide +kernel
theorem dX5_readNumber_5 : decode cX5_readNumber 5 = .ok (.invokevirtual 144, 3) := by decide +kernel
theorem dX5_readNumber_8 : decode cX5_readNumber 8 = .ok (.bipush 49, 2) := by decide +kernel
theorem dX5_readNumber_10 : decode cX5_readNumber 10 = .ok (.bipush 57, 2) := by decide +kernel
theorem dX5_readNumber_12 : decode cX5_readNumber 12 = .ok (.invokestatic 80, 3) := by decide +kernel
theorem dX5_readNumber_15 : decode cX5_readNumber 15 = .ok (.ifCond .ne 5, 3) := by decide +kernel
theorem dX5_readNumber_18 : decode cX5_readNumber 18 = .ok (.iconst 0, 1) := by decide +kernel
theorem dX5_readNumber_19 : decode cX5_readNumber 19 = .ok (.ireturn, 1) := by decide +kernel
theorem dX5_readNumber_20 : decode cX5_readNumber 20 = .ok (.aload_n 0, 1) := by decide +kernel
theorem dX5_readNumber_21 : decode cX5_readNumber 21 = .ok (.aload_n 0, 1) := by decide +kernel
theorem dX5_readNumber_22 : decode cX5_readNumber 22 = .ok (.getfield 141, 3) := by decide +kernel
theorem dX5_readNumber_25 : decode cX5_readNumber 25 = .ok (.invokevirtual 144, 3) := by decide +kernel
theorem dX5_readNumber_28 : decode cX5_readNumber 28 = .ok (.bipush 48, 2) := by decide +kernel
theorem dX5_readNumber_30 : decode cX5_readNumber 30 = .ok (.isub, 1) := by decide +kernel
theorem dX5_readNumber_31 : decode cX5_readNumber 31 = .ok (.istore_n 1, 1) := by decide +kernel
theorem dX5_readNumber_32 : decode cX5_readNumber 32 = .ok (.aload_n 0, 1) := by decide +kernel
theorem dX5_readNumber_33 : decode cX5_readNumber 33 = .ok (.dup, 1) := by decide +kernel
theorem dX5_readNumber_34 : decode cX5_readNumber 34 = .ok (.getfield 141, 3) := by decide +kernel
theorem dX5_readNumber_37 : decode cX5_readNumber 37 = .ok (.iconst 1, 1) := by decide +kernel
theorem dX5_readNumber_38 : decode cX5_readNumber 38 = .ok (.iadd, 1) := by decide +kernel
theorem dX5_readNumber_39 : decode cX5_readNumber 39 = .ok (.putfield 141, 3) := by decide +kernel
theorem dX5_readNumber_42 : decode cX5_readNumber 42 = .ok (.aload_n 0, 1) := by decide +kernel
theorem dX5_readNumber_43 : decode cX5_readNumber 43 = .ok (.aload_n 0, 1) := by decide +kernel
theorem dX5_readNumber_44 : decode cX5_readNumber 44 = .ok (.getfield 141, 3) := by decide +kernel
theorem dX5_readNumber_47 : decode cX5_readNumber 47 = .ok (.invokevirtual 144, 3) := by decide +kernel
theorem dX5_readNumber_50 : decode cX5_readNumber 50 = .ok (.bipush 48, 2) := by decide +kernel
theorem dX5_readNumber_52 : decode cX5_readNumber 52 = .ok (.bipush 57, 2) := by decide +kernel
theorem dX5_readNumber_54 : decode cX5_readNumber 54 = .ok (.invokestatic 80, 3) := by decide +kernel
theorem dX5_readNumber_57 : decode cX5_readNumber 57 = .ok (.ifCond .eq 30, 3) := by decide +kernel
theorem dX5_readNumber_60 : decode cX5_readNumber 60 = .ok (.bipush 10, 2) := by decide +kernel
theorem dX5_readNumber_62 : decode cX5_readNumber 62 = .ok (.iload_n 1, 1) := by decide +kernel
theorem dX5_readNumber_63 : decode cX5_readNumber 63 = .ok (.imul, 1) := by decide +kernel
theorem dX5_readNumber_64 : decode cX5_readNumber 64 = .ok (.aload_n 0, 1) := by decide +kernel
theorem dX5_readNumber_65 : decode cX5_readNumber 65 = .ok (.aload_n 0, 1) := by decide +kernel
theorem dX5_readNumber_66 : decode cX5_readNumber 66 = .ok (.getfield 141, 3) := by decide +kernel
theorem dX5_readNumber_69 : decode cX5_readNumber 69 = .ok (.invokevirtual 144, 3) := by decide +kernel
theorem dX5_readNumber_72 : decode cX5_readNumber 72 = .ok (.iadd, 1) := by decide +kernel
theorem dX5_readNumber_73 : decode cX5_readNumber 73 = .ok (.bipush 48, 2) := by decide +kernel
theorem dX5_readNumber_75 : decode cX5_readNumber 75 = .ok (.isub, 1) := by decide +kernel
theorem dX5_readNumber_76 : decode cX5_readNumber 76 = .ok (.istore_n 1, 1) := by decide +kernel
theorem dX5_readNumber_77 : decode cX5_readNumber 77 = .ok (.aload_n 0, 1) := by decide +kernel
theorem dX5_readNumber_78 : decode cX5_readNumber 78 = .ok (.dup, 1) := by decide +kernel
theorem dX5_readNumber_79 : decode cX5_readNumber 79 = .ok (.getfield 141, 3) := by decide +kernel
theorem dX5_readNumber_82 : decode cX5_readNumber 82 = .ok (.iconst 1, 1) := by decide +kernel
theorem dX5_readNumber_83 : decode cX5_readNumber 83 = .ok (.iadd, 1) := by decide +kernel
theorem dX5_readNumber_84 : decode cX5_readNumber 84 = .ok (.putfield 141, 3) := by decide +kernel
theorem dX5_readNumber_87 : decode cX5_readNumber 87 = .ok (.iload_n 1, 1) := by decide +kernel
theorem dX5_readNumber_88 : decode cX5_readNumber 88 = .ok (.ireturn, 1) := by decide +kernel
set_option maxRecDepth 20000 in
theorem ggX5_isRepeat_X5_codeAt : GoodIn wsX5_isRepeat wsX5_codeAt := goodIn_r _ [6, 7, 8, 12, 13, 14, 15, 16, 17, 18, 19, 20, 21, 22, 23, 24, 25, 26, 27, 28, 29, 30, 31] (by decide +kernel) (by decide +kernel)
set_option maxRecDepth 20000 in
theorem gX5_isRepeat_X5_codeAt : GoodIn wsX5_isRepeat (wsV RX5 144 RX5 yX5_codeAt wsX5_codeAt) := goodIn_app (goodIn_of _ (by decide +kernel)) ggX5_isRepeat_X5_codeAt
set_option maxRecDepth 20000 in
theorem ggX5_isRepeat_X5_within : GoodIn wsX5_isRepeat wsX5_within := goodIn_r _ [11] (by decide +kernel) (by decide +kernel)
set_option maxRecDepth 20000 in
theorem gX5_isRepeat_X5_within : GoodIn wsX5_isRepeat (va_wsS RX5 80 yX5_within wsX5_within) := goodIn_app (goodIn_of _ (by decide +kernel)) ggX5_isRepeat_X5_within
theorem dX5_isRepeat_0 : decode cX5_isRepeat 0 = .ok (.aload_n 0, 1) := by decide +kernel
theorem dX5_isRepeat_1 : decode cX5_isRepeat 1 = .ok (.aload_n 0, 1) := by decide +kernel
theorem dX5_isRepeat_2 : decode cX5_isRepeat 2 = .ok (.getfield 141, 3) := by decide +kernel
theorem dX5_isRepeat_5 : decode cX5_isRepeat 5 = .ok (.invokevirtual 144, 3) := by decide +kernel
theorem dX5_isRepeat_8 : decode cX5_isRepeat 8 = .ok (.bipush 50, 2) := by decide +kernel
theorem dX5_isRepeat_10 : decode cX5_isRepeat 10 = .ok (.bipush 57, 2) := by decide +kernel
theorem dX5_isRepeat_12 : decode cX5_isRepeat 12 = .ok (.invokestatic 80, 3) := by decide +kernel
theorem dX5_isRepeat_15 : decode cX5_isRepeat 15 = .ok (.ifCond .eq 22, 3) := by decide +kernel
theorem dX5_isRepeat_18 : decode cX5_isRepeat 18 = .ok (.aload_n 0, 1) := by decide +kernel
theorem dX5_isRepeat_19 : decode cX5_isRepeat 19 = .ok (.aload_n 0, 1) := by decide +kernel
theorem dX5_isRepeat_20 : decode cX5_isRepeat 20 = .ok (.getfield 141, 3) := by decide +kernel
theorem dX5_isRepeat_23 : decode cX5_isRepeat 23 = .ok (.iconst 1, 1) := by decide +kernel
theorem dX5_isRepeat_24 : decode cX5_isRepeat 24 = .ok (.iadd, 1) := by decide +kernel
theorem dX5_isRepeat_25 : decode cX5_isRepeat 25 = .ok (.invokevirtual 144, 3) := by decide +kernel
theorem dX5_isRepeat_28 : decode cX5_isRepeat 28 = .ok (.bipush 40, 2) := by decide +kernel
theorem dX5_isRepeat_30 : decode cX5_isRepeat 30 = .ok (.if_icmp .ne 7, 3) := by decide +kernel
theorem dX5_isRepeat_33 : decode cX5_isRepeat 33 = .ok (.iconst 1, 1) := by decide +kernel
theorem dX5_isRepeat_34 : decode cX5_isRepeat 34 = .ok (.goto 4, 3) := by decide +kernel
theorem dX5_isRepeat_37 : decode cX5_isRepeat 37 = .ok (.iconst 0, 1) := by decide +kernel
theorem dX5_isRepeat_38 : decode cX5_isRepeat 38 = .ok (.ireturn, 1) := by decide +kernel
set_option maxRecDepth 20000 in
theorem ggX5_passesItem_X5_codeAt : GoodIn wsX5_passesItem wsX5_codeAt := goodIn_r _ [6, 7, 8, 19, 20, 21, 22, 23, 24, 25, 26, 27, 28, 29, 30, 31, 32, 33, 34, 35, 36, 37, 38] (by decide +kernel) (by decide +kernel)
set_option maxRecDepth 20000 in
theorem gX5_passesItem_X5_codeAt : GoodIn wsX5_passesItem (wsV RX5 144 RX5 yX5_codeAt wsX5_codeAt) := goodIn_app (goodIn_of _ (by decide +kernel)) ggX5_passesItem_X5_codeAt
set_option maxRecDepth 20000 in
theorem ggX5_passesItem_X5_readNumber : GoodIn wsX5_passesItem wsX5_readNumber := goodIn_r _ [12, 1, 2, 3, 4, 5, 6, 7, 8, 13, 14, 15, 19, 20, 21, 22, 23, 24, 25, 26, 27, 28, 29, 30, 31, 32, 33, 34, 35, 36, 37, 38] (by decide +kernel) (by decide +kernel)
set_option maxRecDepth 20000 in
theorem gX5_passesItem_X5_readNumber : GoodIn wsX5_passesItem (wsV RX5 147 RX5 yX5_readNumber wsX5_readNumber) := goodIn_app (goodIn_of _ (by decide +kernel)) ggX5_passesItem_X5_readNumber
set_option maxRecDepth 20000 in
theorem ggX5_passesItem_X5_hex : GoodIn wsX5_passesItem wsX5_hex := goodIn_r _ [18, 13, 14, 5, 15] (by decide +kernel) (by decide +kernel)
set_option maxRecDepth 20000 in
theorem gX5_passesItem_X5_hex : GoodIn wsX5_passesItem (va_wsS RX5 150 yX5_hex wsX5_hex) := goodIn_app (goodIn_of _ (by decide +kernel)) ggX5_passesItem_X5_hex
theorem dX5_passesItem_0 : decode cX5_passesItem 0 = .ok (.aload_n 0, 1) := by decide +kernel
theorem dX5_passesItem_1 : decode cX5_passesItem 1 = .ok (.aload_n 0, 1) := by decide +kernel
theorem dX5_passesItem_2 : decode cX5_passesItem 2 = .ok (.getfield 141, 3) := by decide +kernel
theorem dX5_passesItem_5 : decode cX5_passesItem 5 = .ok (.invokevirtual 144, 3) := by decide +kernel
theorem dX5_passesItem_8 : decode cX5_passesItem 8 = .ok (.bipush 46, 2) := by decide +kernel
theorem dX5_passesItem_10 : decode cX5_passesItem 10 = .ok (.if_icmp .eq 16, 3) := by decide +kernel
theorem dX5_passesItem_13 : decode cX5_passesItem 13 = .ok (.aload_n 0, 1) := by decide +kernel
theorem dX5_passesItem_14 : decode cX5_passesItem 14 = .ok (.aload_n 0, 1) := by decide +kernel
theorem dX5_passesItem_15 : decode cX5_passesItem 15 = .ok (.getfield 141, 3) := by decide +kernel
theorem dX5_passesItem_18 : decode cX5_passesItem 18 = .ok (.invokevirtual 144, 3) := by decide +kernel
theorem dX5_passesItem_21 : decode cX5_passesItem 21 = .ok (.bipush 95, 2) := by decide +kernel
theorem dX5_passesItem_23 : decode cX5_passesItem 23 = .ok (.if_icmp .ne 26, 3) := by decide +kernel
theorem dX5_passesItem_26 : decode cX5_passesItem 26 = .ok (.aload_n 0, 1) := by decide +kernel
theorem dX5_passesItem_27 : decode cX5_passesItem 27 = .ok (.dup, 1) := by decide +kernel
theorem dX5_passesItem_28 : decode cX5_passesItem 28 = .ok (.getfield 141, 3) := by decide +kernel
theorem dX5_passesItem_31 : decode cX5_passesItem 31 = .ok (.iconst 1, 1) := by decide +kernel
theorem dX5_passesItem_32 : decode cX5_passesItem 32 = .ok (.iadd, 1) := by decide +kernel
theorem dX5_passesItem_33 : decode cX5_passesItem 33 = .ok (.putfield 141, 3) := by decide +kernel
theorem dX5_passesItem_36 : decode cX5_passesItem 36 = .ok (.aload_n 0, 1) := by decide +kernel
theorem dX5_passesItem_37 : decode cX5_passesItem 37 = .ok (.invokevirtual 147, 3) := by decide +kernel
theorem dX5_passesItem_40 : decode cX5_passesItem 40 = .ok (.ifCond .le 7, 3) := by decide +kernel
theorem dX5_passesItem_43 : decode cX5_passesItem 43 = .ok (.iconst 1, 1) := by decide +kernel
theorem dX5_passesItem_44 : decode cX5_passesItem 44 = .ok (.goto 4, 3) := by decide +kernel
theorem dX5_passesItem_47 : decode cX5_passesItem 47 = .ok (.iconst 0, 1) := by decide +kernel
theorem dX5_passesItem_48 : decode cX5_passesItem 48 = .ok (.ireturn, 1) := by decide +kernel
theorem dX5_passesItem_49 : decode cX5_passesItem 49 = .ok (.iconst 0, 1) := by decide +kernel
theorem dX5_passesItem_50 : decode cX5_passesItem 50 = .ok (.istore_n 1, 1) := by decide +kernel
theorem dX5_passesItem_51 : decode cX5_passesItem 51 = .ok (.iload_n 1, 1) := by decide +kernel
theorem dX5_passesItem_52 : decode cX5_passesItem 52 = .ok (.iconst 2, 1) := by decide +kernel
theorem dX5_passesItem_53 : decode cX5_passesItem 53 = .ok (.if_icmp .ge 37, 3) := by decide +kernel
theorem dX5_passesItem_56 : decode cX5_passesItem 56 = .ok (.aload_n 0, 1) := by decide +kernel
theorem dX5_passesItem_57 : decode cX5_passesItem 57 = .ok (.aload_n 0, 1) := by decide +kernel
theorem dX5_passesItem_58 : decode cX5_passesItem 58 = .ok (.getfield 141, 3) := by decide +kernel
theorem dX5_passesItem_61 : decode cX5_passesItem 61 = .ok (.invokevirtual 144, 3) := by decide +kernel
theorem dX5_passesItem_64 : decode cX5_passesItem 64 = .ok (.invokestatic 150, 3) := by decide +kernel
theorem dX5_passesItem_67 : decode cX5_passesItem 67 = .ok (.bipush (-5), 2) := by decide +kernel
theorem dX5_passesItem_69 : decode cX5_passesItem 69 = .ok (.if_icmp .ne 5, 3) := by decide +kernel
theorem dX5_passesItem_72 : decode cX5_passesItem 72 = .ok (.iconst 0, 1) := by decide +kernel
theorem dX5_passesItem_73 : decode cX5_passesItem 73 = .ok (.ireturn, 1) := by decide +kernel
theorem dX5_passesItem_74 : decode cX5_passesItem 74 = .ok (.aload_n 0, 1) := by decide +kernel
theorem dX5_passesItem_75 : decode cX5_passesItem 75 = .ok (.dup, 1) := by decide +kernel
theorem dX5_passesItem_76 : decode cX5_passesItem 76 = .ok (.getfield 141, 3) := by decide +kernel
theorem dX5_passesItem_79 : decode cX5_passesItem 79 = .ok (.iconst 1, 1) := by decide +kernel
theorem dX5_passesItem_80 : decode cX5_passesItem 80 = .ok (.iadd, 1) := by decide +kernel
theorem dX5_passesItem_81 : decode cX5_passesItem 81 = .ok (.putfield 141, 3) := by decide +kernel
theorem dX5_passesItem_84 : decode cX5_passesItem 84 = .ok (.iinc 1 1, 3) := by decide +kernel
theorem dX5_passesItem_87 : decode cX5_passesItem 87 = .ok (.goto (-36), 3) := by decide +kernel
theorem dX5_passesItem_90 : decode cX5_passesItem 90 = .ok (.iconst 1, 1) := by decide +kernel
theorem dX5_passesItem_91 : decode cX5_passesItem 91 = .ok (.ireturn, 1) := by decide +kernel
set_option maxRecDepth 20000 in
theorem ggX5_fault_X5_isRepeat : GoodIn wsX5_fault wsX5_isRepeat := goodIn_r _ [8, 1, 9, 10, 11, 7, 12, 3, 13, 14, 15, 16, 28, 29, 30, 31, 32, 33, 34, 35, 36, 37, 38, 39, 40, 41, 42, 43, 44, 45, 46, 47] (by decide +kernel) (by decide +kernel)
set_option maxRecDepth 20000 in
theorem gX5_fault_X5_isRepeat : GoodIn wsX5_fault (wsV RX5 156 RX5 yX5_isRepeat wsX5_isRepeat) := goodIn_app (goodIn_of _ (by decide +kernel)) ggX5_fault_X5_isRepeat
set_option maxRecDepth 20000 in
theorem ggX5_fault_X5_passesItem : GoodIn wsX5_fault wsX5_passesItem := goodIn_r _ [20, 1, 9, 10, 11, 7, 12, 3, 13, 21, 22, 23, 24, 14, 15, 16, 25, 26, 27, 28, 29, 30, 31, 32, 33, 34, 35, 36, 37, 38, 39, 40, 41, 42, 43, 44, 45, 46, 47] (by decide +kernel) (by decide +kernel)
set_option maxRecDepth 20000 in
theorem gX5_fault_X5_passesItem : GoodIn wsX5_fault (wsV RX5 159 RX5 yX5_passesItem wsX5_passesItem) := goodIn_app (goodIn_of _ (by decide +kernel)) ggX5_fault_X5_passesItem
set_option maxRecDepth 20000 in
theorem ggX5_fault_X5_codeAt : GoodIn wsX5_fault wsX5_codeAt := goodIn_r _ [12, 3, 13, 28, 29, 30, 31, 32, 33, 34, 35, 36, 37, 38, 39, 40, 41, 42, 43, 44, 45, 46, 47] (by decide +kernel) (by decide +kernel)
set_option maxRecDepth 20000 in
theorem gX5_fault_X5_codeAt : GoodIn wsX5_fault (wsV RX5 144 RX5 yX5_codeAt wsX5_codeAt) := goodIn_app (goodIn_of _ (by decide +kernel)) ggX5_fault_X5_codeAt
theorem dX5_fault_0 : decode cX5_fault 0 = .ok (.aload_n 0, 1) := by decide +kernel
theorem dX5_fault_1 : decode cX5_fault 1 = .ok (.iconst 0, 1) := by decide +kernel
theorem dX5_fault_2 : decode cX5_fault 2 = .ok (.putfield 141, 3) := by decide +kernel
theorem dX5_fault_5 : decode cX5_fault 5 = .ok (.aload_n 0, 1) := by decide +kernel
theorem dX5_fault_6 : decode cX5_fault 6 = .ok (.iconst 0, 1) := by decide +kernel
theorem dX5_fault_7 : decode cX5_fault 7 = .ok (.putfield 153, 3) := by decide +kernel
theorem dX5_fault_10 : decode cX5_fault 10 = .ok (.aload_n 0, 1) := by decide +kernel
theorem dX5_fault_11 : decode cX5_fault 11 = .ok (.invokevirtual 156, 3) := by decide +kernel
theorem dX5_fault_14 : decode cX5_fault 14 = .ok (.ifCond .eq 26, 3) := by decide +kernel
theorem dX5_fault_17 : decode cX5_fault 17 = .ok (.aload_n 0, 1) := by decide +kernel
theorem dX5_fault_18 : decode cX5_fault 18 = .ok (.dup, 1) := by decide +kernel
theorem dX5_fault_19 : decode cX5_fault 19 = .ok (.getfield 141, 3) := by decide +kernel
theorem dX5_fault_22 : decode cX5_fault 22 = .ok (.iconst 2, 1) := by decide +kernel
theorem dX5_fault_23 : decode cX5_fault 23 = .ok (.iadd, 1) := by decide +kernel
theorem dX5_fault_24 : decode cX5_fault 24 = .ok (.putfield 141, 3) := by decide +kernel
theorem dX5_fault_27 : decode cX5_fault 27 = .ok (.aload_n 0, 1) := by decide +kernel
theorem dX5_fault_28 : decode cX5_fault 28 = .ok (.dup, 1) := by decide +kernel
theorem dX5_fault_29 : decode cX5_fault 29 = .ok (.getfield 153, 3) := by decide +kernel
theorem dX5_fault_32 : decode cX5_fault 32 = .ok (.iconst 1, 1) := by decide +kernel
theorem dX5_fault_33 : decode cX5_fault 33 = .ok (.iadd, 1) := by decide +kernel
theorem dX5_fault_34 : decode cX5_fault 34 = .ok (.putfield 153, 3) := by decide +kernel
theorem dX5_fault_37 : decode cX5_fault 37 = .ok (.goto (-27), 3) := by decide +kernel
theorem dX5_fault_40 : decode cX5_fault 40 = .ok (.aload_n 0, 1) := by decide +kernel
theorem dX5_fault_41 : decode cX5_fault 41 = .ok (.invokevirtual 159, 3) := by decide +kernel
theorem dX5_fault_44 : decode cX5_fault 44 = .ok (.ifCond .ne 8, 3) := by decide +kernel
theorem dX5_fault_47 : decode cX5_fault 47 = .ok (.aload_n 0, 1) := by decide +kernel
theorem dX5_fault_48 : decode cX5_fault 48 = .ok (.getfield 141, 3) := by decide +kernel
theorem dX5_fault_51 : decode cX5_fault 51 = .ok (.ireturn, 1) := by decide +kernel
theorem dX5_fault_52 : decode cX5_fault 52 = .ok (.aload_n 0, 1) := by decide +kernel
theorem dX5_fault_53 : decode cX5_fault 53 = .ok (.getfield 153, 3) := by decide +kernel
theorem dX5_fault_56 : decode cX5_fault 56 = .ok (.ifCond .le 39, 3) := by decide +kernel
theorem dX5_fault_59 : decode cX5_fault 59 = .ok (.aload_n 0, 1) := by decide +kernel
theorem dX5_fault_60 : decode cX5_fault 60 = .ok (.aload_n 0, 1) := by decide +kernel
theorem dX5_fault_61 : decode cX5_fault 61 = .ok (.getfield 141, 3) := by decide +kernel
theorem dX5_fault_64 : decode cX5_fault 64 = .ok (.invokevirtual 144, 3) := by decide +kernel
theorem dX5_fault_67 : decode cX5_fault 67 = .ok (.bipush 41, 2) := by decide +kernel
theorem dX5_fault_69 : decode cX5_fault 69 = .ok (.if_icmp .ne 26, 3) := by decide +kernel
theorem dX5_fault_72 : decode cX5_fault 72 = .ok (.aload_n 0, 1) := by decide +kernel
theorem dX5_fault_73 : decode cX5_fault 73 = .ok (.dup, 1) := by decide +kernel
theorem dX5_fault_74 : decode cX5_fault 74 = .ok (.getfield 141, 3) := by decide +kernel
theorem dX5_fault_77 : decode cX5_fault 77 = .ok (.iconst 1, 1) := by decide +kernel
theorem dX5_fault_78 : decode cX5_fault 78 = .ok (.iadd, 1) := by decide +kernel
theorem dX5_fault_79 : decode cX5_fault 79 = .ok (.putfield 141, 3) := by decide +kernel
theorem dX5_fault_82 : decode cX5_fault 82 = .ok (.aload_n 0, 1) := by decide +kernel
theorem dX5_fault_83 : decode cX5_fault 83 = .ok (.dup, 1) := by decide +kernel
theorem dX5_fault_84 : decode cX5_fault 84 = .ok (.getfield 153, 3) := by decide +kernel
theorem dX5_fault_87 : decode cX5_fault 87 = .ok (.iconst 1, 1) := by decide +kernel
theorem dX5_fault_88 : decode cX5_fault 88 = .ok (.isub, 1) := by decide +kernel
theorem dX5_fault_89 : decode cX5_fault 89 = .ok (.putfield 153, 3) := by decide +kernel
theorem dX5_fault_92 : decode cX5_fault 92 = .ok (.goto (-40), 3) := by decide +kernel
theorem dX5_fault_95 : decode cX5_fault 95 = .ok (.aload_n 0, 1) := by decide +kernel
theorem dX5_fault_96 : decode cX5_fault 96 = .ok (.getfield 141, 3) := by decide +kernel
theorem dX5_fault_99 : decode cX5_fault 99 = .ok (.aload_n 0, 1) := by decide +kernel
theorem dX5_fault_100 : decode cX5_fault 100 = .ok (.getfield 138, 3) := by decide +kernel
theorem dX5_fault_103 : decode cX5_fault 103 = .ok (.if_icmp .ne 13, 3) := by decide +kernel
theorem dX5_fault_106 : decode cX5_fault 106 = .ok (.aload_n 0, 1) := by decide +kernel
theorem dX5_fault_107 : decode cX5_fault 107 = .ok (.getfield 153, 3) := by decide +kernel
theorem dX5_fault_110 : decode cX5_fault 110 = .ok (.ifCond .ne 6, 3) := by decide +kernel
theorem dX5_fault_113 : decode cX5_fault 113 = .ok (.bipush (-5), 2) := by decide +kernel
theorem dX5_fault_115 : decode cX5_fault 115 = .ok (.ireturn, 1) := by decide +kernel
theorem dX5_fault_116 : decode cX5_fault 116 = .ok (.aload_n 0, 1) := by decide +kernel
theorem dX5_fault_117 : decode cX5_fault 117 = .ok (.aload_n 0, 1) := by decide +kernel
theorem dX5_fault_118 : decode cX5_fault 118 = .ok (.getfield 141, 3) := by decide +kernel
theorem dX5_fault_121 : decode cX5_fault 121 = .ok (.invokevirtual 144, 3) := by decide +kernel
theorem dX5_fault_124 : decode cX5_fault 124 = .ok (.bipush 44, 2) := by decide +kernel
theorem dX5_fault_126 : decode cX5_fault 126 = .ok (.if_icmp .eq 8, 3) := by decide +kernel
theorem dX5_fault_129 : decode cX5_fault 129 = .ok (.aload_n 0, 1) := by decide +kernel
theorem dX5_fault_130 : decode cX5_fault 130 = .ok (.getfield 141, 3) := by decide +kernel
theorem dX5_fault_133 : decode cX5_fault 133 = .ok (.ireturn, 1) := by decide +kernel
theorem dX5_fault_134 : decode cX5_fault 134 = .ok (.aload_n 0, 1) := by decide +kernel
theorem dX5_fault_135 : decode cX5_fault 135 = .ok (.dup, 1) := by decide +kernel
theorem dX5_fault_136 : decode cX5_fault 136 = .ok (.getfield 141, 3) := by decide +kernel
theorem dX5_fault_139 : decode cX5_fault 139 = .ok (.iconst 1, 1) := by decide +kernel
theorem dX5_fault_140 : decode cX5_fault 140 = .ok (.iadd, 1) := by decide +kernel
theorem dX5_fault_141 : decode cX5_fault 141 = .ok (.putfield 141, 3) := by decide +kernel
theorem dX5_fault_144 : decode cX5_fault 144 = .ok (.goto (-134), 3) := by decide +kernel
set_option maxRecDepth 20000 in
theorem ggX5_sendsItem_X5_codeAt : GoodIn wsX5_sendsItem wsX5_codeAt := goodIn_r _ [6, 7, 8, 47, 48, 49, 50, 51, 52, 53, 54, 55, 56, 57, 58, 59, 60, 61, 62, 63, 64, 65, 66] (by decide +kernel) (by decide +kernel)
set_option maxRecDepth 20000 in
theorem gX5_sendsItem_X5_codeAt : GoodIn wsX5_sendsItem (wsV RX5 144 RX5 yX5_codeAt wsX5_codeAt) := goodIn_app (goodIn_of _ (by decide +kernel)) ggX5_sendsItem_X5_codeAt
set_option maxRecDepth 20000 in
theorem ggX5_sendsItem_X5_readNumber : GoodIn wsX5_sendsItem wsX5_readNumber := goodIn_r _ [12, 1, 2, 3, 4, 5, 6, 7, 8, 13, 14, 15, 47, 48, 49, 50, 51, 52, 53, 54, 55, 56, 57, 58, 59, 60, 61, 62, 63, 64, 65, 66] (by decide +kernel) (by decide +kernel)
set_option maxRecDepth 20000 in
theorem gX5_sendsItem_X5_readNumber : GoodIn wsX5_sendsItem (wsV RX5 147 RX5 yX5_readNumber wsX5_readNumber) := goodIn_app (goodIn_of _ (by decide +kernel)) ggX5_sendsItem_X5_readNumber
set_option maxRecDepth 20000 in
theorem ggX5_sendsItem_X5_putLevel : GoodIn wsX5_sendsItem wsX5_putLevel := goodIn_r _ [19, 20, 47, 48, 49, 50, 51, 52, 53, 54, 55, 56, 57, 58, 59, 60, 61, 62, 63, 64, 65, 66] (by decide +kernel) (by decide +kernel)
set_option maxRecDepth 20000 in
theorem gX5_sendsItem_X5_putLevel : GoodIn wsX5_sendsItem (wsV RX5 88 RX5 yX5_putLevel wsX5_putLevel) := goodIn_app (goodIn_of _ (by decide +kernel)) ggX5_sendsItem_X5_putLevel
set_option maxRecDepth 20000 in
theorem ggX5_sendsItem_X5_hex : GoodIn wsX5_sendsItem wsX5_hex := goodIn_r _ [23, 13, 14, 5, 15] (by decide +kernel) (by decide +kernel)
set_option maxRecDepth 20000 in
theorem gX5_sendsItem_X5_hex : GoodIn wsX5_sendsItem (va_wsS RX5 150 yX5_hex wsX5_hex) := goodIn_app (goodIn_of _ (by decide +kernel)) ggX5_sendsItem_X5_hex
set_option maxRecDepth 20000 in
theorem ggX5_sendsItem_X5_putWord : GoodIn wsX5_sendsItem wsX5_putWord := goodIn_r _ [27, 20, 28, 29, 30, 5, 31, 32, 33, 34, 35, 36, 37, 38, 39, 40, 41, 42, 43, 44, 45, 46, 47, 48, 49, 50, 51, 52, 53, 54, 55, 56, 57, 58, 59, 60, 61, 62, 63, 64, 65, 66] (by decide +kernel) (by decide +kernel)
set_option maxRecDepth 20000 in
theorem gX5_sendsItem_X5_putWord : GoodIn wsX5_sendsItem (wsV RX5 84 RX5 yX5_putWord wsX5_putWord) := goodIn_app (goodIn_of _ (by decide +kernel)) ggX5_sendsItem_X5_putWord
theorem dX5_sendsItem_0 : decode cX5_sendsItem 0 = .ok (.aload_n 0, 1) := by decide +kernel
theorem dX5_sendsItem_1 : decode cX5_sendsItem 1 = .ok (.aload_n 0, 1) := by decide +kernel
theorem dX5_sendsItem_2 : decode cX5_sendsItem 2 = .ok (.getfield 141, 3) := by decide +kernel
theorem dX5_sendsItem_5 : decode cX5_sendsItem 5 = .ok (.invokevirtual 144, 3) := by decide +kernel
theorem dX5_sendsItem_8 : decode cX5_sendsItem 8 = .ok (.istore_n 1, 1) := by decide +kernel
theorem dX5_sendsItem_9 : decode cX5_sendsItem 9 = .ok (.iload_n 1, 1) := by decide +kernel
theorem dX5_sendsItem_10 : decode cX5_sendsItem 10 = .ok (.bipush 46, 2) := by decide +kernel
theorem dX5_sendsItem_12 : decode cX5_sendsItem 12 = .ok (.if_icmp .eq 9, 3) := by decide +kernel
theorem dX5_sendsItem_15 : decode cX5_sendsItem 15 = .ok (.iload_n 1, 1) := by decide +kernel
theorem dX5_sendsItem_16 : decode cX5_sendsItem 16 = .ok (.bipush 95, 2) := by decide +kernel
theorem dX5_sendsItem_18 : decode cX5_sendsItem 18 = .ok (.if_icmp .ne 33, 3) := by decide +kernel
theorem dX5_sendsItem_21 : decode cX5_sendsItem 21 = .ok (.aload_n 0, 1) := by decide +kernel
theorem dX5_sendsItem_22 : decode cX5_sendsItem 22 = .ok (.dup, 1) := by decide +kernel
theorem dX5_sendsItem_23 : decode cX5_sendsItem 23 = .ok (.getfield 141, 3) := by decide +kernel
theorem dX5_sendsItem_26 : decode cX5_sendsItem 26 = .ok (.iconst 1, 1) := by decide +kernel
theorem dX5_sendsItem_27 : decode cX5_sendsItem 27 = .ok (.iadd, 1) := by decide +kernel
theorem dX5_sendsItem_28 : decode cX5_sendsItem 28 = .ok (.putfield 141, 3) := by decide +kernel
theorem dX5_sendsItem_31 : decode cX5_sendsItem 31 = .ok (.aload_n 0, 1) := by decide +kernel
theorem dX5_sendsItem_32 : decode cX5_sendsItem 32 = .ok (.iload_n 1, 1) := by decide +kernel
theorem dX5_sendsItem_33 : decode cX5_sendsItem 33 = .ok (.bipush 46, 2) := by decide +kernel
theorem dX5_sendsItem_35 : decode cX5_sendsItem 35 = .ok (.if_icmp .ne 7, 3) := by decide +kernel
theorem dX5_sendsItem_38 : decode cX5_sendsItem 38 = .ok (.iconst 1, 1) := by decide +kernel
theorem dX5_sendsItem_39 : decode cX5_sendsItem 39 = .ok (.goto 4, 3) := by decide +kernel
theorem dX5_sendsItem_42 : decode cX5_sendsItem 42 = .ok (.iconst 0, 1) := by decide +kernel
theorem dX5_sendsItem_43 : decode cX5_sendsItem 43 = .ok (.aload_n 0, 1) := by decide +kernel
theorem dX5_sendsItem_44 : decode cX5_sendsItem 44 = .ok (.invokevirtual 147, 3) := by decide +kernel
theorem dX5_sendsItem_47 : decode cX5_sendsItem 47 = .ok (.invokevirtual 88, 3) := by decide +kernel
theorem dX5_sendsItem_50 : decode cX5_sendsItem 50 = .ok (.ireturn, 1) := by decide +kernel
theorem dX5_sendsItem_51 : decode cX5_sendsItem 51 = .ok (.bipush 16, 2) := by decide +kernel
theorem dX5_sendsItem_53 : decode cX5_sendsItem 53 = .ok (.iload_n 1, 1) := by decide +kernel
theorem dX5_sendsItem_54 : decode cX5_sendsItem 54 = .ok (.invokestatic 150, 3) := by decide +kernel
theorem dX5_sendsItem_57 : decode cX5_sendsItem 57 = .ok (.imul, 1) := by decide +kernel
theorem dX5_sendsItem_58 : decode cX5_sendsItem 58 = .ok (.aload_n 0, 1) := by decide +kernel
theorem dX5_sendsItem_59 : decode cX5_sendsItem 59 = .ok (.aload_n 0, 1) := by decide +kernel
theorem dX5_sendsItem_60 : decode cX5_sendsItem 60 = .ok (.getfield 141, 3) := by decide +kernel
theorem dX5_sendsItem_63 : decode cX5_sendsItem 63 = .ok (.iconst 1, 1) := by decide +kernel
theorem dX5_sendsItem_64 : decode cX5_sendsItem 64 = .ok (.iadd, 1) := by decide +kernel
theorem dX5_sendsItem_65 : decode cX5_sendsItem 65 = .ok (.invokevirtual 144, 3) := by decide +kernel
theorem dX5_sendsItem_68 : decode cX5_sendsItem 68 = .ok (.invokestatic 150, 3) := by decide +kernel
theorem dX5_sendsItem_71 : decode cX5_sendsItem 71 = .ok (.iadd, 1) := by decide +kernel
theorem dX5_sendsItem_72 : decode cX5_sendsItem 72 = .ok (.istore_n 2, 1) := by decide +kernel
theorem dX5_sendsItem_73 : decode cX5_sendsItem 73 = .ok (.aload_n 0, 1) := by decide +kernel
theorem dX5_sendsItem_74 : decode cX5_sendsItem 74 = .ok (.dup, 1) := by decide +kernel
theorem dX5_sendsItem_75 : decode cX5_sendsItem 75 = .ok (.getfield 141, 3) := by decide +kernel
theorem dX5_sendsItem_78 : decode cX5_sendsItem 78 = .ok (.iconst 2, 1) := by decide +kernel
theorem dX5_sendsItem_79 : decode cX5_sendsItem 79 = .ok (.iadd, 1) := by decide +kernel
theorem dX5_sendsItem_80 : decode cX5_sendsItem 80 = .ok (.putfield 141, 3) := by decide +kernel
theorem dX5_sendsItem_83 : decode cX5_sendsItem 83 = .ok (.aload_n 0, 1) := by decide +kernel
theorem dX5_sendsItem_84 : decode cX5_sendsItem 84 = .ok (.iload_n 2, 1) := by decide +kernel
theorem dX5_sendsItem_85 : decode cX5_sendsItem 85 = .ok (.invokevirtual 84, 3) := by decide +kernel
theorem dX5_sendsItem_88 : decode cX5_sendsItem 88 = .ok (.ireturn, 1) := by decide +kernel
set_option maxRecDepth 20000 in
theorem ggX5_goOn_X5_codeAt : GoodIn wsX5_goOn wsX5_codeAt := goodIn_r _ [9, 10, 11, 12, 13, 14, 15, 16, 17, 18, 19, 20, 21, 22, 23, 24, 25, 26, 27, 28, 29, 30, 31] (by decide +kernel) (by decide +kernel)
set_option maxRecDepth 20000 in
theorem gX5_goOn_X5_codeAt : GoodIn wsX5_goOn (wsV RX5 144 RX5 yX5_codeAt wsX5_codeAt) := goodIn_app (goodIn_of _ (by decide +kernel)) ggX5_goOn_X5_codeAt
theorem dX5_goOn_0 : decode cX5_goOn 0 = .ok (.iconst 1, 1) := by decide +kernel
theorem dX5_goOn_1 : decode cX5_goOn 1 = .ok (.istore_n 1, 1) := by decide +kernel
theorem dX5_goOn_2 : decode cX5_goOn 2 = .ok (.iload_n 1, 1) := by decide +kernel
theorem dX5_goOn_3 : decode cX5_goOn 3 = .ok (.ifCond .eq 100, 3) := by decide +kernel
theorem dX5_goOn_6 : decode cX5_goOn 6 = .ok (.aload_n 0, 1) := by decide +kernel
theorem dX5_goOn_7 : decode cX5_goOn 7 = .ok (.aload_n 0, 1) := by decide +kernel
theorem dX5_goOn_8 : decode cX5_goOn 8 = .ok (.getfield 141, 3) := by decide +kernel
theorem dX5_goOn_11 : decode cX5_goOn 11 = .ok (.invokevirtual 144, 3) := by decide +kernel
theorem dX5_goOn_14 : decode cX5_goOn 14 = .ok (.bipush 41, 2) := by decide +kernel
theorem dX5_goOn_16 : decode cX5_goOn 16 = .ok (.if_icmp .ne 87, 3) := by decide +kernel
theorem dX5_goOn_19 : decode cX5_goOn 19 = .ok (.aload_n 0, 1) := by decide +kernel
theorem dX5_goOn_20 : decode cX5_goOn 20 = .ok (.getfield 28, 3) := by decide +kernel
theorem dX5_goOn_23 : decode cX5_goOn 23 = .ok (.aload_n 0, 1) := by decide +kernel
theorem dX5_goOn_24 : decode cX5_goOn 24 = .ok (.getfield 153, 3) := by decide +kernel
theorem dX5_goOn_27 : decode cX5_goOn 27 = .ok (.iconst 1, 1) := by decide +kernel
theorem dX5_goOn_28 : decode cX5_goOn 28 = .ok (.isub, 1) := by decide +kernel
theorem dX5_goOn_29 : decode cX5_goOn 29 = .ok (.dup2, 1) := by decide +kernel
theorem dX5_goOn_30 : decode cX5_goOn 30 = .ok (.iaload, 1) := by decide +kernel
theorem dX5_goOn_31 : decode cX5_goOn 31 = .ok (.iconst 1, 1) := by decide +kernel
theorem dX5_goOn_32 : decode cX5_goOn 32 = .ok (.isub, 1) := by decide +kernel
theorem dX5_goOn_33 : decode cX5_goOn 33 = .ok (.iastore, 1) := by decide +kernel
theorem dX5_goOn_34 : decode cX5_goOn 34 = .ok (.aload_n 0, 1) := by decide +kernel
theorem dX5_goOn_35 : decode cX5_goOn 35 = .ok (.getfield 28, 3) := by decide +kernel
theorem dX5_goOn_38 : decode cX5_goOn 38 = .ok (.aload_n 0, 1) := by decide +kernel
theorem dX5_goOn_39 : decode cX5_goOn 39 = .ok (.getfield 153, 3) := by decide +kernel
theorem dX5_goOn_42 : decode cX5_goOn 42 = .ok (.iconst 1, 1) := by decide +kernel
theorem dX5_goOn_43 : decode cX5_goOn 43 = .ok (.isub, 1) := by decide +kernel
theorem dX5_goOn_44 : decode cX5_goOn 44 = .ok (.iaload, 1) := by decide +kernel
theorem dX5_goOn_45 : decode cX5_goOn 45 = .ok (.ifCond .ne 7, 3) := by decide +kernel
theorem dX5_goOn_48 : decode cX5_goOn 48 = .ok (.iconst 1, 1) := by decide +kernel
theorem dX5_goOn_49 : decode cX5_goOn 49 = .ok (.goto 4, 3) := by decide +kernel
theorem dX5_goOn_52 : decode cX5_goOn 52 = .ok (.iconst 0, 1) := by decide +kernel
theorem dX5_goOn_53 : decode cX5_goOn 53 = .ok (.istore_n 1, 1) := by decide +kernel
theorem dX5_goOn_54 : decode cX5_goOn 54 = .ok (.aload_n 0, 1) := by decide +kernel
theorem dX5_goOn_55 : decode cX5_goOn 55 = .ok (.iload_n 1, 1) := by decide +kernel
theorem dX5_goOn_56 : decode cX5_goOn 56 = .ok (.ifCond .eq 12, 3) := by decide +kernel
theorem dX5_goOn_59 : decode cX5_goOn 59 = .ok (.aload_n 0, 1) := by decide +kernel
theorem dX5_goOn_60 : decode cX5_goOn 60 = .ok (.getfield 141, 3) := by decide +kernel
theorem dX5_goOn_63 : decode cX5_goOn 63 = .ok (.iconst 1, 1) := by decide +kernel
theorem dX5_goOn_64 : decode cX5_goOn 64 = .ok (.iadd, 1) := by decide +kernel
theorem dX5_goOn_65 : decode cX5_goOn 65 = .ok (.goto 14, 3) := by decide +kernel
theorem dX5_goOn_68 : decode cX5_goOn 68 = .ok (.aload_n 0, 1) := by decide +kernel
theorem dX5_goOn_69 : decode cX5_goOn 69 = .ok (.getfield 25, 3) := by decide +kernel
theorem dX5_goOn_72 : decode cX5_goOn 72 = .ok (.aload_n 0, 1) := by decide +kernel
theorem dX5_goOn_73 : decode cX5_goOn 73 = .ok (.getfield 153, 3) := by decide +kernel
theorem dX5_goOn_76 : decode cX5_goOn 76 = .ok (.iconst 1, 1) := by decide +kernel
theorem dX5_goOn_77 : decode cX5_goOn 77 = .ok (.isub, 1) := by decide +kernel
theorem dX5_goOn_78 : decode cX5_goOn 78 = .ok (.iaload, 1) := by decide +kernel
theorem dX5_goOn_79 : decode cX5_goOn 79 = .ok (.putfield 141, 3) := by decide +kernel
theorem dX5_goOn_82 : decode cX5_goOn 82 = .ok (.aload_n 0, 1) := by decide +kernel
theorem dX5_goOn_83 : decode cX5_goOn 83 = .ok (.dup, 1) := by decide +kernel
theorem dX5_goOn_84 : decode cX5_goOn 84 = .ok (.getfield 153, 3) := by decide +kernel
theorem dX5_goOn_87 : decode cX5_goOn 87 = .ok (.iload_n 1, 1) := by decide +kernel
theorem dX5_goOn_88 : decode cX5_goOn 88 = .ok (.ifCond .eq 7, 3) := by decide +kernel
theorem dX5_goOn_91 : decode cX5_goOn 91 = .ok (.iconst 1, 1) := by decide +kernel
theorem dX5_goOn_92 : decode cX5_goOn 92 = .ok (.goto 4, 3) := by decide +kernel
theorem dX5_goOn_95 : decode cX5_goOn 95 = .ok (.iconst 0, 1) := by decide +kernel
theorem dX5_goOn_96 : decode cX5_goOn 96 = .ok (.isub, 1) := by decide +kernel
theorem dX5_goOn_97 : decode cX5_goOn 97 = .ok (.putfield 153, 3) := by decide +kernel
theorem dX5_goOn_100 : decode cX5_goOn 100 = .ok (.goto (-98), 3) := by decide +kernel
theorem dX5_goOn_103 : decode cX5_goOn 103 = .ok (.aload_n 0, 1) := by decide +kernel
theorem dX5_goOn_104 : decode cX5_goOn 104 = .ok (.dup, 1) := by decide +kernel
theorem dX5_goOn_105 : decode cX5_goOn 105 = .ok (.getfield 141, 3) := by decide +kernel
theorem dX5_goOn_108 : decode cX5_goOn 108 = .ok (.iload_n 1, 1) := by decide +kernel
theorem dX5_goOn_109 : decode cX5_goOn 109 = .ok (.ifCond .eq 20, 3) := by decide +kernel
theorem dX5_goOn_112 : decode cX5_goOn 112 = .ok (.aload_n 0, 1) := by decide +kernel
theorem dX5_goOn_113 : decode cX5_goOn 113 = .ok (.aload_n 0, 1) := by decide +kernel
theorem dX5_goOn_114 : decode cX5_goOn 114 = .ok (.getfield 141, 3) := by decide +kernel
theorem dX5_goOn_117 : decode cX5_goOn 117 = .ok (.invokevirtual 144, 3) := by decide +kernel
theorem dX5_goOn_120 : decode cX5_goOn 120 = .ok (.bipush 44, 2) := by decide +kernel
theorem dX5_goOn_122 : decode cX5_goOn 122 = .ok (.if_icmp .ne 7, 3) := by decide +kernel
theorem dX5_goOn_125 : decode cX5_goOn 125 = .ok (.iconst 1, 1) := by decide +kernel
theorem dX5_goOn_126 : decode cX5_goOn 126 = .ok (.goto 4, 3) := by decide +kernel
theorem dX5_goOn_129 : decode cX5_goOn 129 = .ok (.iconst 0, 1) := by decide +kernel
theorem dX5_goOn_130 : decode cX5_goOn 130 = .ok (.iadd, 1) := by decide +kernel
theorem dX5_goOn_131 : decode cX5_goOn 131 = .ok (.putfield 141, 3) := by decide +kernel
theorem dX5_goOn_134 : decode cX5_goOn 134 = .ok (.return_, 1) := by decide +kernel
set_option maxRecDepth 20000 in
theorem ggX5_perform_X5_fault : GoodIn wsX5_perform wsX5_fault := goodIn_r _ [11, 1, 2, 3, 12, 13, 14, 10, 15, 16, 17, 18, 19, 20, 21, 22, 23, 24, 25, 26, 27, 28, 29, 30, 31, 32, 33, 34, 85, 86, 87, 88, 89, 90, 91, 92, 93, 94, 95, 96, 97, 98, 99, 100, 101, 102, 103, 104] (by decide +kernel) (by decide +kernel)
set_option maxRecDepth 20000 in
theorem gX5_perform_X5_fault : GoodIn wsX5_perform (wsV RX5 162 RX5 yX5_fault wsX5_fault) := goodIn_app (goodIn_of _ (by decide +kernel)) ggX5_perform_X5_fault
set_option maxRecDepth 20000 in
theorem ggX5_perform_X5_putAside : GoodIn wsX5_perform wsX5_putAside := goodIn_r _ [38, 39, 6, 85, 86, 87, 88, 89, 90, 91, 92, 93, 94, 95, 96, 97, 98, 99, 100, 101, 102, 103, 104] (by decide +kernel) (by decide +kernel)
set_option maxRecDepth 20000 in
theorem gX5_perform_X5_putAside : GoodIn wsX5_perform (wsV RX5 50 RX5 yX5_putAside wsX5_putAside) := goodIn_app (goodIn_of _ (by decide +kernel)) ggX5_perform_X5_putAside
set_option maxRecDepth 20000 in
theorem ggX5_perform_X5_isRepeat : GoodIn wsX5_perform wsX5_isRepeat := goodIn_r _ [15, 1, 16, 17, 18, 10, 19, 3, 20, 21, 22, 23, 85, 86, 87, 88, 89, 90, 91, 92, 93, 94, 95, 96, 97, 98, 99, 100, 101, 102, 103, 104] (by decide +kernel) (by decide +kernel)
set_option maxRecDepth 20000 in
theorem gX5_perform_X5_isRepeat : GoodIn wsX5_perform (wsV RX5 156 RX5 yX5_isRepeat wsX5_isRepeat) := goodIn_app (goodIn_of _ (by decide +kernel)) ggX5_perform_X5_isRepeat
set_option maxRecDepth 20000 in
theorem ggX5_perform_X5_codeAt : GoodIn wsX5_perform wsX5_codeAt := goodIn_r _ [19, 3, 20, 85, 86, 87, 88, 89, 90, 91, 92, 93, 94, 95, 96, 97, 98, 99, 100, 101, 102, 103, 104] (by decide +kernel) (by decide +kernel)
set_option maxRecDepth 20000 in
theorem gX5_perform_X5_codeAt : GoodIn wsX5_perform (wsV RX5 144 RX5 yX5_codeAt wsX5_codeAt) := goodIn_app (goodIn_of _ (by decide +kernel)) ggX5_perform_X5_codeAt
set_option maxRecDepth 20000 in
theorem ggX5_perform_X5_sendsItem : GoodIn wsX5_perform wsX5_sendsItem := goodIn_r _ [43, 1, 16, 17, 18, 10, 19, 3, 20, 28, 29, 30, 31, 21, 22, 23, 44, 45, 46, 47, 6, 32, 33, 34, 48, 49, 50, 51, 52, 53, 54, 55, 56, 57, 58, 59, 60, 61, 62, 63, 64, 65, 66, 67, 68, 69, 70, 85, 86, 87, 88, 89, 90, 91, 92, 93, 94, 95, 96, 97, 98, 99, 100, 101, 102, 103, 104] (by decide +kernel) (by decide +kernel)
set_option maxRecDepth 20000 in
theorem gX5_perform_X5_sendsItem : GoodIn wsX5_perform (wsV RX5 165 RX5 yX5_sendsItem wsX5_sendsItem) := goodIn_app (goodIn_of _ (by decide +kernel)) ggX5_perform_X5_sendsItem
set_option maxRecDepth 20000 in
theorem ggX5_perform_X5_takeBack : GoodIn wsX5_perform wsX5_takeBack := goodIn_r _ [74, 6, 39, 85, 86, 87, 88, 89, 90, 91, 92, 93, 94, 95, 96, 97, 98, 99, 100, 101, 102, 103, 104] (by decide +kernel) (by decide +kernel)
set_option maxRecDepth 20000 in
theorem gX5_perform_X5_takeBack : GoodIn wsX5_perform (wsV RX5 168 RX5 yX5_takeBack wsX5_takeBack) := goodIn_app (goodIn_of _ (by decide +kernel)) ggX5_perform_X5_takeBack
set_option maxRecDepth 20000 in
theorem ggX5_perform_X5_goOn : GoodIn wsX5_perform wsX5_goOn := goodIn_r _ [78, 1, 4, 2, 5, 16, 17, 18, 10, 19, 3, 20, 85, 86, 87, 88, 89, 90, 91, 92, 93, 94, 95, 96, 97, 98, 99, 100, 101, 102, 103, 104] (by decide +kernel) (by decide +kernel)
set_option maxRecDepth 20000 in
theorem gX5_perform_X5_goOn : GoodIn wsX5_perform (wsV RX5 171 RX5 yX5_goOn wsX5_goOn) := goodIn_app (goodIn_of _ (by decide +kernel)) ggX5_perform_X5_goOn
set_option maxRecDepth 20000 in
theorem ggX5_perform_X5_push : GoodIn wsX5_perform wsX5_push := goodIn_r _ [82, 83, 84, 39, 85, 86, 87, 88, 89, 90, 91, 92, 93, 94, 95, 96, 97, 98, 99, 100, 101, 102, 103, 104] (by decide +kernel) (by decide +kernel)
set_option maxRecDepth 20000 in
theorem gX5_perform_X5_push : GoodIn wsX5_perform (wsV RX5 53 RX5 yX5_push wsX5_push) := goodIn_app (goodIn_of _ (by decide +kernel)) ggX5_perform_X5_push
theorem dX5_perform_0 : decode cX5_perform 0 = .ok (.aload_n 0, 1) := by decide +kernel
theorem dX5_perform_1 : decode cX5_perform 1 = .ok (.invokevirtual 162, 3) := by decide +kernel
theorem dX5_perform_4 : decode cX5_perform 4 = .ok (.istore_n 1, 1) := by decide +kernel
theorem dX5_perform_5 : decode cX5_perform 5 = .ok (.iload_n 1, 1) := by decide +kernel
theorem dX5_perform_6 : decode cX5_perform 6 = .ok (.bipush (-5), 2) := by decide +kernel
theorem dX5_perform_8 : decode cX5_perform 8 = .ok (.if_icmp .eq 8, 3) := by decide +kernel
theorem dX5_perform_11 : decode cX5_perform 11 = .ok (.bipush (-100), 2) := by decide +kernel
theorem dX5_perform_13 : decode cX5_perform 13 = .ok (.iload_n 1, 1) := by decide +kernel
theorem dX5_perform_14 : decode cX5_perform 14 = .ok (.isub, 1) := by decide +kernel
theorem dX5_perform_15 : decode cX5_perform 15 = .ok (.ireturn, 1) := by decide +kernel
theorem dX5_perform_16 : decode cX5_perform 16 = .ok (.aload_n 0, 1) := by decide +kernel
theorem dX5_perform_17 : decode cX5_perform 17 = .ok (.invokevirtual 50, 3) := by decide +kernel
theorem dX5_perform_20 : decode cX5_perform 20 = .ok (.aload_n 0, 1) := by decide +kernel
theorem dX5_perform_21 : decode cX5_perform 21 = .ok (.iconst 0, 1) := by decide +kernel
theorem dX5_perform_22 : decode cX5_perform 22 = .ok (.putfield 141, 3) := by decide +kernel
theorem dX5_perform_25 : decode cX5_perform 25 = .ok (.aload_n 0, 1) := by decide +kernel
theorem dX5_perform_26 : decode cX5_perform 26 = .ok (.iconst 0, 1) := by decide +kernel
theorem dX5_perform_27 : decode cX5_perform 27 = .ok (.putfield 153, 3) := by decide +kernel
theorem dX5_perform_30 : decode cX5_perform 30 = .ok (.aload_n 0, 1) := by decide +kernel
theorem dX5_perform_31 : decode cX5_perform 31 = .ok (.getfield 141, 3) := by decide +kernel
theorem dX5_perform_34 : decode cX5_perform 34 = .ok (.aload_n 0, 1) := by decide +kernel
theorem dX5_perform_35 : decode cX5_perform 35 = .ok (.getfield 138, 3) := by decide +kernel
theorem dX5_perform_38 : decode cX5_perform 38 = .ok (.if_icmp .ge 89, 3) := by decide +kernel
theorem dX5_perform_41 : decode cX5_perform 41 = .ok (.aload_n 0, 1) := by decide +kernel
theorem dX5_perform_42 : decode cX5_perform 42 = .ok (.invokevirtual 156, 3) := by decide +kernel
theorem dX5_perform_45 : decode cX5_perform 45 = .ok (.ifCond .eq 61, 3) := by decide +kernel
theorem dX5_perform_48 : decode cX5_perform 48 = .ok (.aload_n 0, 1) := by decide +kernel
theorem dX5_perform_49 : decode cX5_perform 49 = .ok (.getfield 28, 3) := by decide +kernel
theorem dX5_perform_52 : decode cX5_perform 52 = .ok (.aload_n 0, 1) := by decide +kernel
theorem dX5_perform_53 : decode cX5_perform 53 = .ok (.getfield 153, 3) := by decide +kernel
theorem dX5_perform_56 : decode cX5_perform 56 = .ok (.aload_n 0, 1) := by decide +kernel
theorem dX5_perform_57 : decode cX5_perform 57 = .ok (.aload_n 0, 1) := by decide +kernel
theorem dX5_perform_58 : decode cX5_perform 58 = .ok (.getfield 141, 3) := by decide +kernel
theorem dX5_perform_61 : decode cX5_perform 61 = .ok (.invokevirtual 144, 3) := by decide +kernel
theorem dX5_perform_64 : decode cX5_perform 64 = .ok (.bipush 48, 2) := by decide +kernel
theorem dX5_perform_66 : decode cX5_perform 66 = .ok (.isub, 1) := by decide +kernel
theorem dX5_perform_67 : decode cX5_perform 67 = .ok (.iastore, 1) := by decide +kernel
theorem dX5_perform_68 : decode cX5_perform 68 = .ok (.aload_n 0, 1) := by decide +kernel
theorem dX5_perform_69 : decode cX5_perform 69 = .ok (.getfield 25, 3) := by decide +kernel
theorem dX5_perform_72 : decode cX5_perform 72 = .ok (.aload_n 0, 1) := by decide +kernel
theorem dX5_perform_73 : decode cX5_perform 73 = .ok (.getfield 153, 3) := by decide +kernel
theorem dX5_perform_76 : decode cX5_perform 76 = .ok (.aload_n 0, 1) := by decide +kernel
theorem dX5_perform_77 : decode cX5_perform 77 = .ok (.getfield 141, 3) := by decide +kernel
theorem dX5_perform_80 : decode cX5_perform 80 = .ok (.iconst 2, 1) := by decide +kernel
theorem dX5_perform_81 : decode cX5_perform 81 = .ok (.iadd, 1) := by decide +kernel
theorem dX5_perform_82 : decode cX5_perform 82 = .ok (.iastore, 1) := by decide +kernel
theorem dX5_perform_83 : decode cX5_perform 83 = .ok (.aload_n 0, 1) := by decide +kernel
theorem dX5_perform_84 : decode cX5_perform 84 = .ok (.dup, 1) := by decide +kernel
theorem dX5_perform_85 : decode cX5_perform 85 = .ok (.getfield 153, 3) := by decide +kernel
theorem dX5_perform_88 : decode cX5_perform 88 = .ok (.iconst 1, 1) := by decide +kernel
theorem dX5_perform_89 : decode cX5_perform 89 = .ok (.iadd, 1) := by decide +kernel
theorem dX5_perform_90 : decode cX5_perform 90 = .ok (.putfield 153, 3) := by decide +kernel
theorem dX5_perform_93 : decode cX5_perform 93 = .ok (.aload_n 0, 1) := by decide +kernel
theorem dX5_perform_94 : decode cX5_perform 94 = .ok (.dup, 1) := by decide +kernel
theorem dX5_perform_95 : decode cX5_perform 95 = .ok (.getfield 141, 3) := by decide +kernel
theorem dX5_perform_98 : decode cX5_perform 98 = .ok (.iconst 2, 1) := by decide +kernel
theorem dX5_perform_99 : decode cX5_perform 99 = .ok (.iadd, 1) := by decide +kernel
theorem dX5_perform_100 : decode cX5_perform 100 = .ok (.putfield 141, 3) := by decide +kernel
theorem dX5_perform_103 : decode cX5_perform 103 = .ok (.goto (-62), 3) := by decide +kernel
theorem dX5_perform_106 : decode cX5_perform 106 = .ok (.aload_n 0, 1) := by decide +kernel
theorem dX5_perform_107 : decode cX5_perform 107 = .ok (.invokevirtual 165, 3) := by decide +kernel
theorem dX5_perform_110 : decode cX5_perform 110 = .ok (.ifCond .ne 10, 3) := by decide +kernel
theorem dX5_perform_113 : decode cX5_perform 113 = .ok (.aload_n 0, 1) := by decide +kernel
theorem dX5_perform_114 : decode cX5_perform 114 = .ok (.invokevirtual 168, 3) := by decide +kernel
theorem dX5_perform_117 : decode cX5_perform 117 = .ok (.bipush (-3), 2) := by decide +kernel
theorem dX5_perform_119 : decode cX5_perform 119 = .ok (.ireturn, 1) := by decide +kernel
theorem dX5_perform_120 : decode cX5_perform 120 = .ok (.aload_n 0, 1) := by decide +kernel
theorem dX5_perform_121 : decode cX5_perform 121 = .ok (.invokevirtual 171, 3) := by decide +kernel
theorem dX5_perform_124 : decode cX5_perform 124 = .ok (.goto (-94), 3) := by decide +kernel
theorem dX5_perform_127 : decode cX5_perform 127 = .ok (.aload_n 0, 1) := by decide +kernel
theorem dX5_perform_128 : decode cX5_perform 128 = .ok (.invokevirtual 53, 3) := by decide +kernel
theorem dX5_perform_131 : decode cX5_perform 131 = .ok (.aload_n 0, 1) := by decide +kernel
theorem dX5_perform_132 : decode cX5_perform 132 = .ok (.getfield 7, 3) := by decide +kernel
theorem dX5_perform_135 : decode cX5_perform 135 = .ok (.iconst 5, 1) := by decide +kernel
theorem dX5_perform_136 : decode cX5_perform 136 = .ok (.iaload, 1) := by decide +kernel
theorem dX5_perform_137 : decode cX5_perform 137 = .ok (.ireturn, 1) := by decide +kernel
set_option maxRecDepth 20000 in
theorem ggX5_level_X5_levelAt : GoodIn wsX5_level wsX5_levelAt := goodIn_r _ [5, 6, 7, 8, 9, 10, 11, 12, 13, 14, 15, 16, 17, 18, 19, 20, 21, 22, 23, 24, 25, 26] (by decide +kernel) (by decide +kernel)
set_option maxRecDepth 20000 in
theorem gX5_level_X5_levelAt : GoodIn wsX5_level (wsV RX5 106 RX5 yX5_levelAt wsX5_levelAt) := goodIn_app (goodIn_of _ (by decide +kernel)) ggX5_level_X5_levelAt
theorem dX5_level_0 : decode cX5_level 0 = .ok (.iload_n 1, 1) := by decide +kernel
theorem dX5_level_1 : decode cX5_level 1 = .ok (.ifCond .ge 8, 3) := by decide +kernel
theorem dX5_level_4 : decode cX5_level 4 = .ok (.bipush (-2), 2) := by decide +kernel
theorem dX5_level_6 : decode cX5_level 6 = .ok (.goto 8, 3) := by decide +kernel
theorem dX5_level_9 : decode cX5_level 9 = .ok (.aload_n 0, 1) := by decide +kernel
theorem dX5_level_10 : decode cX5_level 10 = .ok (.iload_n 1, 1) := by decide +kernel
theorem dX5_level_11 : decode cX5_level 11 = .ok (.invokevirtual 106, 3) := by decide +kernel
theorem dX5_level_14 : decode cX5_level 14 = .ok (.ireturn, 1) := by decide +kernel
set_option maxRecDepth 20000 in
theorem ggX5_fall_X5_fallOf : GoodIn wsX5_fall wsX5_fallOf := goodIn_r _ [5, 6, 7, 8, 9, 4, 10, 11, 12, 13, 14, 15, 16, 17, 18, 19, 20, 21, 22, 23, 24, 25, 26, 27, 28, 29, 30, 31, 32, 33, 34] (by decide +kernel) (by decide +kernel)
set_option maxRecDepth 20000 in
theorem gX5_fall_X5_fallOf : GoodIn wsX5_fall (wsV RX5 135 RX5 yX5_fallOf wsX5_fallOf) := goodIn_app (goodIn_of _ (by decide +kernel)) ggX5_fall_X5_fallOf
theorem dX5_fall_0 : decode cX5_fall 0 = .ok (.iload_n 1, 1) := by decide +kernel
theorem dX5_fall_1 : decode cX5_fall 1 = .ok (.ifCond .ge 8, 3) := by decide +kernel
theorem dX5_fall_4 : decode cX5_fall 4 = .ok (.bipush (-2), 2) := by decide +kernel
theorem dX5_fall_6 : decode cX5_fall 6 = .ok (.goto 8, 3) := by decide +kernel
theorem dX5_fall_9 : decode cX5_fall 9 = .ok (.aload_n 0, 1) := by decide +kernel
theorem dX5_fall_10 : decode cX5_fall 10 = .ok (.iload_n 1, 1) := by decide +kernel
theorem dX5_fall_11 : decode cX5_fall 11 = .ok (.invokevirtual 135, 3) := by decide +kernel
theorem dX5_fall_14 : decode cX5_fall 14 = .ok (.ireturn, 1) := by decide +kernel
theorem dX5_sent_0 : decode cX5_sent 0 = .ok (.iload_n 1, 1) := by decide +kernel
theorem dX5_sent_1 : decode cX5_sent 1 = .ok (.ifCond .ge 6, 3) := by decide +kernel
theorem dX5_sent_4 : decode cX5_sent 4 = .ok (.bipush (-2), 2) := by decide +kernel
theorem dX5_sent_6 : decode cX5_sent 6 = .ok (.ireturn, 1) := by decide +kernel
theorem dX5_sent_7 : decode cX5_sent 7 = .ok (.iload_n 1, 1) := by decide +kernel
theorem dX5_sent_8 : decode cX5_sent 8 = .ok (.aload_n 0, 1) := by decide +kernel
theorem dX5_sent_9 : decode cX5_sent 9 = .ok (.getfield 7, 3) := by decide +kernel
theorem dX5_sent_12 : decode cX5_sent 12 = .ok (.bipush 6, 2) := by decide +kernel
theorem dX5_sent_14 : decode cX5_sent 14 = .ok (.iaload, 1) := by decide +kernel
theorem dX5_sent_15 : decode cX5_sent 15 = .ok (.if_icmp .ge 15, 3) := by decide +kernel
theorem dX5_sent_18 : decode cX5_sent 18 = .ok (.aload_n 0, 1) := by decide +kernel
theorem dX5_sent_19 : decode cX5_sent 19 = .ok (.getfield 7, 3) := by decide +kernel
theorem dX5_sent_22 : decode cX5_sent 22 = .ok (.bipush 7, 2) := by decide +kernel
theorem dX5_sent_24 : decode cX5_sent 24 = .ok (.iload_n 1, 1) := by decide +kernel
theorem dX5_sent_25 : decode cX5_sent 25 = .ok (.iadd, 1) := by decide +kernel
theorem dX5_sent_26 : decode cX5_sent 26 = .ok (.iaload, 1) := by decide +kernel
theorem dX5_sent_27 : decode cX5_sent 27 = .ok (.goto 5, 3) := by decide +kernel
theorem dX5_sent_30 : decode cX5_sent 30 = .ok (.bipush (-5), 2) := by decide +kernel
theorem dX5_sent_32 : decode cX5_sent 32 = .ok (.ireturn, 1) := by decide +kernel
set_option maxRecDepth 20000 in
theorem ggX5_received_X5_within : GoodIn wsX5_received wsX5_within := goodIn_r _ [11] (by decide +kernel) (by decide +kernel)
set_option maxRecDepth 20000 in
theorem gX5_received_X5_within : GoodIn wsX5_received (va_wsS RX5 80 yX5_within wsX5_within) := goodIn_app (goodIn_of _ (by decide +kernel)) ggX5_received_X5_within
set_option maxRecDepth 20000 in
theorem ggX5_received_X5_receive : GoodIn wsX5_received wsX5_receive := goodIn_r _ [15, 2, 16, 17, 1, 7, 3, 6, 18, 19, 20, 10, 21, 22, 23, 24, 25, 26, 27, 28, 29, 4, 5, 30, 31, 32, 33, 34, 35, 36, 37, 38, 39, 40, 41, 42, 43, 44, 45, 46, 47, 48, 49, 50, 51, 52, 53, 54, 55, 56, 57, 58, 59, 60] (by decide +kernel) (by decide +kernel)
set_option maxRecDepth 20000 in
theorem gX5_received_X5_receive : GoodIn wsX5_received (wsV RX5 127 RX5 yX5_receive wsX5_receive) := goodIn_app (goodIn_of _ (by decide +kernel)) ggX5_received_X5_receive
theorem dX5_received_0 : decode cX5_received 0 = .ok (.iload_n 1, 1) := by decide +kernel
theorem dX5_received_1 : decode cX5_received 1 = .ok (.ifCond .lt 12, 3) := by decide +kernel
theorem dX5_received_4 : decode cX5_received 4 = .ok (.iload_n 2, 1) := by decide +kernel
theorem dX5_received_5 : decode cX5_received 5 = .ok (.iconst 0, 1) := by decide +kernel
theorem dX5_received_6 : decode cX5_received 6 = .ok (.iconst 4, 1) := by decide +kernel
theorem dX5_received_7 : decode cX5_received 7 = .ok (.invokestatic 80, 3) := by decide +kernel
theorem dX5_received_10 : decode cX5_received 10 = .ok (.ifCond .ne 6, 3) := by decide +kernel
theorem dX5_received_13 : decode cX5_received 13 = .ok (.bipush (-2), 2) := by decide +kernel
theorem dX5_received_15 : decode cX5_received 15 = .ok (.ireturn, 1) := by decide +kernel
theorem dX5_received_16 : decode cX5_received 16 = .ok (.aload_n 0, 1) := by decide +kernel
theorem dX5_received_17 : decode cX5_received 17 = .ok (.aload_n 0, 1) := by decide +kernel
theorem dX5_received_18 : decode cX5_received 18 = .ok (.getfield 7, 3) := by decide +kernel
theorem dX5_received_21 : decode cX5_received 21 = .ok (.iconst 1, 1) := by decide +kernel
theorem dX5_received_22 : decode cX5_received 22 = .ok (.iaload, 1) := by decide +kernel
theorem dX5_received_23 : decode cX5_received 23 = .ok (.invokevirtual 127, 3) := by decide +kernel
theorem dX5_received_26 : decode cX5_received 26 = .ok (.iload_n 1, 1) := by decide +kernel
theorem dX5_received_27 : decode cX5_received 27 = .ok (.aload_n 0, 1) := by decide +kernel
theorem dX5_received_28 : decode cX5_received 28 = .ok (.getfield 109, 3) := by decide +kernel
theorem dX5_received_31 : decode cX5_received 31 = .ok (.if_icmp .lt 6, 3) := by decide +kernel
theorem dX5_received_34 : decode cX5_received 34 = .ok (.bipush (-5), 2) := by decide +kernel
theorem dX5_received_36 : decode cX5_received 36 = .ok (.ireturn, 1) := by decide +kernel
theorem dX5_received_37 : decode cX5_received 37 = .ok (.iload_n 2, 1) := by decide +kernel
theorem dX5_received_38 : decode cX5_received 38 = .ok (.tableswitch 58 0 3 #[30, 37, 44, 51], 30) := by decide +kernel
theorem dX5_received_68 : decode cX5_received 68 = .ok (.aload_n 0, 1) := by decide +kernel
theorem dX5_received_69 : decode cX5_received 69 = .ok (.getfield 31, 3) := by decide +kernel
theorem dX5_received_72 : decode cX5_received 72 = .ok (.iload_n 1, 1) := by decide +kernel
theorem dX5_received_73 : decode cX5_received 73 = .ok (.iaload, 1) := by decide +kernel
theorem dX5_received_74 : decode cX5_received 74 = .ok (.ireturn, 1) := by decide +kernel
theorem dX5_received_75 : decode cX5_received 75 = .ok (.aload_n 0, 1) := by decide +kernel
theorem dX5_received_76 : decode cX5_received 76 = .ok (.getfield 34, 3) := by decide +kernel
theorem dX5_received_79 : decode cX5_received 79 = .ok (.iload_n 1, 1) := by decide +kernel
theorem dX5_received_80 : decode cX5_received 80 = .ok (.iaload, 1) := by decide +kernel
theorem dX5_received_81 : decode cX5_received 81 = .ok (.ireturn, 1) := by decide +kernel
theorem dX5_received_82 : decode cX5_received 82 = .ok (.aload_n 0, 1) := by decide +kernel
theorem dX5_received_83 : decode cX5_received 83 = .ok (.getfield 37, 3) := by decide +kernel
theorem dX5_received_86 : decode cX5_received 86 = .ok (.iload_n 1, 1) := by decide +kernel
theorem dX5_received_87 : decode cX5_received 87 = .ok (.iaload, 1) := by decide +kernel
theorem dX5_received_88 : decode cX5_received 88 = .ok (.ireturn, 1) := by decide +kernel
theorem dX5_received_89 : decode cX5_received 89 = .ok (.aload_n 0, 1) := by decide +kernel
theorem dX5_received_90 : decode cX5_received 90 = .ok (.getfield 40, 3) := by decide +kernel
theorem dX5_received_93 : decode cX5_received 93 = .ok (.iload_n 1, 1) := by decide +kernel
theorem dX5_received_94 : decode cX5_received 94 = .ok (.iaload, 1) := by decide +kernel
theorem dX5_received_95 : decode cX5_received 95 = .ok (.ireturn, 1) := by decide +kernel
theorem dX5_received_96 : decode cX5_received 96 = .ok (.aload_n 0, 1) := by decide +kernel
theorem dX5_received_97 : decode cX5_received 97 = .ok (.getfield 43, 3) := by decide +kernel
theorem dX5_received_100 : decode cX5_received 100 = .ok (.iload_n 1, 1) := by decide +kernel
theorem dX5_received_101 : decode cX5_received 101 = .ok (.iaload, 1) := by decide +kernel
theorem dX5_received_102 : decode cX5_received 102 = .ok (.ireturn, 1) := by decide +kernel
set_option maxRecDepth 20000 in
theorem ggX5_falls_X5_isFall : GoodIn wsX5_falls wsX5_isFall := goodIn_r _ [6, 7, 8, 9, 5, 10, 1, 11, 12, 13, 14, 15, 16, 17, 18, 19, 20, 21, 22, 23, 24, 25, 26, 27, 28, 29, 30] (by decide +kernel) (by decide +kernel)
set_option maxRecDepth 20000 in
theorem gX5_falls_X5_isFall : GoodIn wsX5_falls (wsV RX5 121 RX5 yX5_isFall wsX5_isFall) := goodIn_app (goodIn_of _ (by decide +kernel)) ggX5_falls_X5_isFall
theorem dX5_falls_0 : decode cX5_falls 0 = .ok (.iconst 0, 1) := by decide +kernel
theorem dX5_falls_1 : decode cX5_falls 1 = .ok (.istore_n 1, 1) := by decide +kernel
theorem dX5_falls_2 : decode cX5_falls 2 = .ok (.iconst 0, 1) := by decide +kernel
theorem dX5_falls_3 : decode cX5_falls 3 = .ok (.istore_n 2, 1) := by decide +kernel
theorem dX5_falls_4 : decode cX5_falls 4 = .ok (.iload_n 2, 1) := by decide +kernel
theorem dX5_falls_5 : decode cX5_falls 5 = .ok (.aload_n 0, 1) := by decide +kernel
theorem dX5_falls_6 : decode cX5_falls 6 = .ok (.getfield 7, 3) := by decide +kernel
theorem dX5_falls_9 : decode cX5_falls 9 = .ok (.iconst 5, 1) := by decide +kernel
theorem dX5_falls_10 : decode cX5_falls 10 = .ok (.iaload, 1) := by decide +kernel
theorem dX5_falls_11 : decode cX5_falls 11 = .ok (.if_icmp .ge 25, 3) := by decide +kernel
theorem dX5_falls_14 : decode cX5_falls 14 = .ok (.iload_n 1, 1) := by decide +kernel
theorem dX5_falls_15 : decode cX5_falls 15 = .ok (.aload_n 0, 1) := by decide +kernel
theorem dX5_falls_16 : decode cX5_falls 16 = .ok (.iload_n 2, 1) := by decide +kernel
theorem dX5_falls_17 : decode cX5_falls 17 = .ok (.invokevirtual 121, 3) := by decide +kernel
theorem dX5_falls_20 : decode cX5_falls 20 = .ok (.ifCond .eq 7, 3) := by decide +kernel
theorem dX5_falls_23 : decode cX5_falls 23 = .ok (.iconst 1, 1) := by decide +kernel
theorem dX5_falls_24 : decode cX5_falls 24 = .ok (.goto 4, 3) := by decide +kernel
theorem dX5_falls_27 : decode cX5_falls 27 = .ok (.iconst 0, 1) := by decide +kernel
theorem dX5_falls_28 : decode cX5_falls 28 = .ok (.iadd, 1) := by decide +kernel
theorem dX5_falls_29 : decode cX5_falls 29 = .ok (.istore_n 1, 1) := by decide +kernel
theorem dX5_falls_30 : decode cX5_falls 30 = .ok (.iinc 2 1, 3) := by decide +kernel
theorem dX5_falls_33 : decode cX5_falls 33 = .ok (.goto (-29), 3) := by decide +kernel
theorem dX5_falls_36 : decode cX5_falls 36 = .ok (.iload_n 1, 1) := by decide +kernel
theorem dX5_falls_37 : decode cX5_falls 37 = .ok (.ireturn, 1) := by decide +kernel
set_option maxRecDepth 20000 in
theorem ggX5_zeros_X5_levelAt : GoodIn wsX5_zeros wsX5_levelAt := goodIn_r _ [6, 1, 7, 8, 9, 10, 11, 12, 13, 14, 15, 16, 17, 18, 19, 20, 21, 22, 23, 24, 25, 26] (by decide +kernel) (by decide +kernel)
set_option maxRecDepth 20000 in
theorem gX5_zeros_X5_levelAt : GoodIn wsX5_zeros (wsV RX5 106 RX5 yX5_levelAt wsX5_levelAt) := goodIn_app (goodIn_of _ (by decide +kernel)) ggX5_zeros_X5_levelAt
theorem dX5_zeros_0 : decode cX5_zeros 0 = .ok (.iconst 0, 1) := by decide +kernel
theorem dX5_zeros_1 : decode cX5_zeros 1 = .ok (.istore_n 1, 1) := by decide +kernel
theorem dX5_zeros_2 : decode cX5_zeros 2 = .ok (.iconst 0, 1) := by decide +kernel
theorem dX5_zeros_3 : decode cX5_zeros 3 = .ok (.istore_n 2, 1) := by decide +kernel
theorem dX5_zeros_4 : decode cX5_zeros 4 = .ok (.iload_n 2, 1) := by decide +kernel
theorem dX5_zeros_5 : decode cX5_zeros 5 = .ok (.aload_n 0, 1) := by decide +kernel
theorem dX5_zeros_6 : decode cX5_zeros 6 = .ok (.getfield 7, 3) := by decide +kernel
theorem dX5_zeros_9 : decode cX5_zeros 9 = .ok (.iconst 5, 1) := by decide +kernel
theorem dX5_zeros_10 : decode cX5_zeros 10 = .ok (.iaload, 1) := by decide +kernel
theorem dX5_zeros_11 : decode cX5_zeros 11 = .ok (.if_icmp .ge 19, 3) := by decide +kernel
theorem dX5_zeros_14 : decode cX5_zeros 14 = .ok (.iload_n 1, 1) := by decide +kernel
theorem dX5_zeros_15 : decode cX5_zeros 15 = .ok (.iconst 1, 1) := by decide +kernel
theorem dX5_zeros_16 : decode cX5_zeros 16 = .ok (.aload_n 0, 1) := by decide +kernel
theorem dX5_zeros_17 : decode cX5_zeros 17 = .ok (.iload_n 2, 1) := by decide +kernel
theorem dX5_zeros_18 : decode cX5_zeros 18 = .ok (.invokevirtual 106, 3) := by decide +kernel
theorem dX5_zeros_21 : decode cX5_zeros 21 = .ok (.isub, 1) := by decide +kernel
theorem dX5_zeros_22 : decode cX5_zeros 22 = .ok (.iadd, 1) := by decide +kernel
theorem dX5_zeros_23 : decode cX5_zeros 23 = .ok (.istore_n 1, 1) := by decide +kernel
theorem dX5_zeros_24 : decode cX5_zeros 24 = .ok (.iinc 2 1, 3) := by decide +kernel
theorem dX5_zeros_27 : decode cX5_zeros 27 = .ok (.goto (-23), 3) := by decide +kernel
theorem dX5_zeros_30 : decode cX5_zeros 30 = .ok (.iload_n 1, 1) := by decide +kernel
theorem dX5_zeros_31 : decode cX5_zeros 31 = .ok (.ireturn, 1) := by decide +kernel
set_option maxRecDepth 20000 in
theorem ggX5_tellsReceived_X5_receive : GoodIn wsX5_tellsReceived wsX5_receive := goodIn_r _ [9, 2, 3, 4, 1, 10, 11, 12, 13, 14, 15, 8, 16, 17, 18, 19, 20, 21, 22, 23, 24, 25, 26, 27, 28, 29, 30, 31, 32, 33, 34, 35, 36, 37, 46, 47, 48, 49, 50, 51, 52, 53, 54, 55, 56, 57, 58, 59, 60, 61, 62, 63, 64, 65] (by decide +kernel) (by decide +kernel)
set_option maxRecDepth 20000 in
theorem gX5_tellsReceived_X5_receive : GoodIn wsX5_tellsReceived (wsV RX5 127 RX5 yX5_receive wsX5_receive) := goodIn_app (goodIn_of _ (by decide +kernel)) ggX5_tellsReceived_X5_receive
set_option maxRecDepth 20000 in
theorem ggX5_tellsReceived_X5_isWell : GoodIn wsX5_tellsReceived wsX5_isWell := goodIn_r _ [41, 2, 1, 11, 25, 46, 47, 48, 49, 50, 51, 52, 53, 54, 55, 56, 57, 58, 59, 60, 61, 62, 63, 64, 65] (by decide +kernel) (by decide +kernel)
set_option maxRecDepth 20000 in
theorem gX5_tellsReceived_X5_isWell : GoodIn wsX5_tellsReceived (wsV RX5 131 RX5 yX5_isWell wsX5_isWell) := goodIn_app (goodIn_of _ (by decide +kernel)) ggX5_tellsReceived_X5_isWell
set_option maxRecDepth 20000 in
theorem ggX5_tellsReceived_X5_ofKind : GoodIn wsX5_tellsReceived wsX5_ofKind := goodIn_r _ [45, 2, 11, 46, 47, 48, 49, 50, 51, 52, 53, 54, 55, 56, 57, 58, 59, 60, 61, 62, 63, 64, 65] (by decide +kernel) (by decide +kernel)
set_option maxRecDepth 20000 in
theorem gX5_tellsReceived_X5_ofKind : GoodIn wsX5_tellsReceived (wsV RX5 174 RX5 yX5_ofKind wsX5_ofKind) := goodIn_app (goodIn_of _ (by decide +kernel)) ggX5_tellsReceived_X5_ofKind
theorem dX5_tellsReceived_0 : decode cX5_tellsReceived 0 = .ok (.aload_n 0, 1) := by decide +kernel
theorem dX5_tellsReceived_1 : decode cX5_tellsReceived 1 = .ok (.aload_n 0, 1) := by decide +kernel
theorem dX5_tellsReceived_2 : decode cX5_tellsReceived 2 = .ok (.getfield 7, 3) := by decide +kernel
theorem dX5_tellsReceived_5 : decode cX5_tellsReceived 5 = .ok (.iconst 1, 1) := by decide +kernel
theorem dX5_tellsReceived_6 : decode cX5_tellsReceived 6 = .ok (.iaload, 1) := by decide +kernel
theorem dX5_tellsReceived_7 : decode cX5_tellsReceived 7 = .ok (.invokevirtual 127, 3) := by decide +kernel
theorem dX5_tellsReceived_10 : decode cX5_tellsReceived 10 = .ok (.iload_n 1, 1) := by decide +kernel
theorem dX5_tellsReceived_11 : decode cX5_tellsReceived 11 = .ok (.tableswitch 73 7 14 #[45, 73, 73, 73, 73, 50, 55, 60], 45) := by decide +kernel
theorem dX5_tellsReceived_56 : decode cX5_tellsReceived 56 = .ok (.aload_n 0, 1) := by decide +kernel
theorem dX5_tellsReceived_57 : decode cX5_tellsReceived 57 = .ok (.getfield 109, 3) := by decide +kernel
theorem dX5_tellsReceived_60 : decode cX5_tellsReceived 60 = .ok (.ireturn, 1) := by decide +kernel
theorem dX5_tellsReceived_61 : decode cX5_tellsReceived 61 = .ok (.aload_n 0, 1) := by decide +kernel
theorem dX5_tellsReceived_62 : decode cX5_tellsReceived 62 = .ok (.getfield 115, 3) := by decide +kernel
theorem dX5_tellsReceived_65 : decode cX5_tellsReceived 65 = .ok (.ireturn, 1) := by decide +kernel
theorem dX5_tellsReceived_66 : decode cX5_tellsReceived 66 = .ok (.aload_n 0, 1) := by decide +kernel
theorem dX5_tellsReceived_67 : decode cX5_tellsReceived 67 = .ok (.getfield 118, 3) := by decide +kernel
theorem dX5_tellsReceived_70 : decode cX5_tellsReceived 70 = .ok (.ireturn, 1) := by decide +kernel
theorem dX5_tellsReceived_71 : decode cX5_tellsReceived 71 = .ok (.aload_n 0, 1) := by decide +kernel
theorem dX5_tellsReceived_72 : decode cX5_tellsReceived 72 = .ok (.invokevirtual 131, 3) := by decide +kernel
theorem dX5_tellsReceived_75 : decode cX5_tellsReceived 75 = .ok (.ifCond .eq 7, 3) := by decide +kernel
theorem dX5_tellsReceived_78 : decode cX5_tellsReceived 78 = .ok (.iconst 1, 1) := by decide +kernel
theorem dX5_tellsReceived_79 : decode cX5_tellsReceived 79 = .ok (.goto 4, 3) := by decide +kernel
theorem dX5_tellsReceived_82 : decode cX5_tellsReceived 82 = .ok (.iconst 0, 1) := by decide +kernel
theorem dX5_tellsReceived_83 : decode cX5_tellsReceived 83 = .ok (.ireturn, 1) := by decide +kernel
theorem dX5_tellsReceived_84 : decode cX5_tellsReceived 84 = .ok (.aload_n 0, 1) := by decide +kernel
theorem dX5_tellsReceived_85 : decode cX5_tellsReceived 85 = .ok (.iload_n 1, 1) := by decide +kernel
theorem dX5_tellsReceived_86 : decode cX5_tellsReceived 86 = .ok (.bipush 8, 2) := by decide +kernel
theorem dX5_tellsReceived_88 : decode cX5_tellsReceived 88 = .ok (.isub, 1) := by decide +kernel
theorem dX5_tellsReceived_89 : decode cX5_tellsReceived 89 = .ok (.invokevirtual 174, 3) := by decide +kernel
theorem dX5_tellsReceived_92 : decode cX5_tellsReceived 92 = .ok (.ireturn, 1) := by decide +kernel
set_option maxRecDepth 20000 in
theorem ggX5_total_X5_within : GoodIn wsX5_total wsX5_within := goodIn_r _ [7] (by decide +kernel) (by decide +kernel)
set_option maxRecDepth 20000 in
theorem gX5_total_X5_within : GoodIn wsX5_total (va_wsS RX5 80 yX5_within wsX5_within) := goodIn_app (goodIn_of _ (by decide +kernel)) ggX5_total_X5_within
set_option maxRecDepth 20000 in
theorem ggX5_total_X5_tellsReceived : GoodIn wsX5_total wsX5_tellsReceived := goodIn_r _ [11, 1, 12, 13, 14, 15, 16, 17, 6, 18, 19, 20, 21, 22, 23, 24, 25, 26, 27, 28, 29, 30, 31, 32, 33, 34, 35, 36, 37, 38, 39, 40, 41, 42, 43, 44, 45, 46, 47, 48, 49, 50, 51, 52, 53, 54, 71, 72, 73, 74, 75, 76, 77, 78, 79, 80, 81, 82, 83, 84, 85, 86, 87, 88, 89, 90] (by decide +kernel) (by decide +kernel)
set_option maxRecDepth 20000 in
theorem gX5_total_X5_tellsReceived : GoodIn wsX5_total (wsV RX5 177 RX5 yX5_tellsReceived wsX5_tellsReceived) := goodIn_app (goodIn_of _ (by decide +kernel)) ggX5_total_X5_tellsReceived
set_option maxRecDepth 20000 in
theorem ggX5_total_X5_falls : GoodIn wsX5_total wsX5_falls := goodIn_r _ [58, 1, 22, 23, 24, 6, 25, 26, 27, 28, 29, 71, 72, 73, 74, 75, 76, 77, 78, 79, 80, 81, 82, 83, 84, 85, 86, 87, 88, 89, 90] (by decide +kernel) (by decide +kernel)
set_option maxRecDepth 20000 in
theorem gX5_total_X5_falls : GoodIn wsX5_total (wsV RX5 180 RX5 yX5_falls wsX5_falls) := goodIn_app (goodIn_of _ (by decide +kernel)) ggX5_total_X5_falls
set_option maxRecDepth 20000 in
theorem ggX5_total_X5_zeros : GoodIn wsX5_total wsX5_zeros := goodIn_r _ [62, 1, 26, 27, 28, 6, 29, 71, 72, 73, 74, 75, 76, 77, 78, 79, 80, 81, 82, 83, 84, 85, 86, 87, 88, 89, 90] (by decide +kernel) (by decide +kernel)
set_option maxRecDepth 20000 in
theorem gX5_total_X5_zeros : GoodIn wsX5_total (wsV RX5 183 RX5 yX5_zeros wsX5_zeros) := goodIn_app (goodIn_of _ (by decide +kernel)) ggX5_total_X5_zeros
set_option maxRecDepth 20000 in
theorem ggX5_total_X5_learned : GoodIn wsX5_total wsX5_learned := goodIn_r _ [66, 67, 68, 69, 6, 70, 1, 22, 23, 24, 25, 26, 27, 28, 29, 4, 5, 7, 71, 72, 73, 74, 75, 76, 77, 78, 79, 80, 81, 82, 83, 84, 85, 86, 87, 88, 89, 90] (by decide +kernel) (by decide +kernel)
set_option maxRecDepth 20000 in
theorem gX5_total_X5_learned : GoodIn wsX5_total (wsV RX5 103 RX5 yX5_learned wsX5_learned) := goodIn_app (goodIn_of _ (by decide +kernel)) ggX5_total_X5_learned
theorem dX5_total_0 : decode cX5_total 0 = .ok (.iload_n 1, 1) := by decide +kernel
theorem dX5_total_1 : decode cX5_total 1 = .ok (.iconst 0, 1) := by decide +kernel
theorem dX5_total_2 : decode cX5_total 2 = .ok (.bipush 6, 2) := by decide +kernel
theorem dX5_total_4 : decode cX5_total 4 = .ok (.invokestatic 80, 3) := by decide +kernel
theorem dX5_total_7 : decode cX5_total 7 = .ok (.ifCond .eq 10, 3) := by decide +kernel
theorem dX5_total_10 : decode cX5_total 10 = .ok (.aload_n 0, 1) := by decide +kernel
theorem dX5_total_11 : decode cX5_total 11 = .ok (.getfield 7, 3) := by decide +kernel
theorem dX5_total_14 : decode cX5_total 14 = .ok (.iload_n 1, 1) := by decide +kernel
theorem dX5_total_15 : decode cX5_total 15 = .ok (.iaload, 1) := by decide +kernel
theorem dX5_total_16 : decode cX5_total 16 = .ok (.ireturn, 1) := by decide +kernel
theorem dX5_total_17 : decode cX5_total 17 = .ok (.iload_n 1, 1) := by decide +kernel
theorem dX5_total_18 : decode cX5_total 18 = .ok (.bipush 7, 2) := by decide +kernel
theorem dX5_total_20 : decode cX5_total 20 = .ok (.bipush 14, 2) := by decide +kernel
theorem dX5_total_22 : decode cX5_total 22 = .ok (.invokestatic 80, 3) := by decide +kernel
theorem dX5_total_25 : decode cX5_total 25 = .ok (.ifCond .eq 9, 3) := by decide +kernel
theorem dX5_total_28 : decode cX5_total 28 = .ok (.aload_n 0, 1) := by decide +kernel
theorem dX5_total_29 : decode cX5_total 29 = .ok (.iload_n 1, 1) := by decide +kernel
theorem dX5_total_30 : decode cX5_total 30 = .ok (.invokevirtual 177, 3) := by decide +kernel
theorem dX5_total_33 : decode cX5_total 33 = .ok (.ireturn, 1) := by decide +kernel
theorem dX5_total_34 : decode cX5_total 34 = .ok (.iload_n 1, 1) := by decide +kernel
theorem dX5_total_35 : decode cX5_total 35 = .ok (.tableswitch 58 15 19 #[33, 38, 43, 48, 53], 33) := by decide +kernel
theorem dX5_total_68 : decode cX5_total 68 = .ok (.aload_n 0, 1) := by decide +kernel
theorem dX5_total_69 : decode cX5_total 69 = .ok (.invokevirtual 180, 3) := by decide +kernel
theorem dX5_total_72 : decode cX5_total 72 = .ok (.ireturn, 1) := by decide +kernel
theorem dX5_total_73 : decode cX5_total 73 = .ok (.aload_n 0, 1) := by decide +kernel
theorem dX5_total_74 : decode cX5_total 74 = .ok (.invokevirtual 183, 3) := by decide +kernel
theorem dX5_total_77 : decode cX5_total 77 = .ok (.ireturn, 1) := by decide +kernel
theorem dX5_total_78 : decode cX5_total 78 = .ok (.aload_n 0, 1) := by decide +kernel
theorem dX5_total_79 : decode cX5_total 79 = .ok (.invokevirtual 103, 3) := by decide +kernel
theorem dX5_total_82 : decode cX5_total 82 = .ok (.ireturn, 1) := by decide +kernel
theorem dX5_total_83 : decode cX5_total 83 = .ok (.aload_n 0, 1) := by decide +kernel
theorem dX5_total_84 : decode cX5_total 84 = .ok (.getfield 46, 3) := by decide +kernel
theorem dX5_total_87 : decode cX5_total 87 = .ok (.ireturn, 1) := by decide +kernel
theorem dX5_total_88 : decode cX5_total 88 = .ok (.aload_n 0, 1) := by decide +kernel
theorem dX5_total_89 : decode cX5_total 89 = .ok (.getfield 138, 3) := by decide +kernel
theorem dX5_total_92 : decode cX5_total 92 = .ok (.ireturn, 1) := by decide +kernel
theorem dX5_total_93 : decode cX5_total 93 = .ok (.bipush (-2), 2) := by decide +kernel
theorem dX5_total_95 : decode cX5_total 95 = .ok (.ireturn, 1) := by decide +kernel
set_option maxRecDepth 20000 in
theorem ggX5_ifLength_X5_within : GoodIn wsX5_ifLength wsX5_within := goodIn_r _ [6] (by decide +kernel) (by decide +kernel)
set_option maxRecDepth 20000 in
theorem gX5_ifLength_X5_within : GoodIn wsX5_ifLength (va_wsS RX5 80 yX5_within wsX5_within) := goodIn_app (goodIn_of _ (by decide +kernel)) ggX5_ifLength_X5_within
set_option maxRecDepth 20000 in
theorem ggX5_ifLength_X5_receive : GoodIn wsX5_ifLength wsX5_receive := goodIn_r _ [10, 1, 11, 2, 12, 13, 14, 15, 16, 17, 18, 5, 19, 20, 21, 22, 23, 24, 25, 26, 27, 28, 29, 30, 31, 32, 33, 34, 35, 36, 37, 38, 39, 40, 49, 50, 51, 52, 53, 54, 55, 56, 57, 58, 59, 60, 61, 62, 63, 64, 65, 66, 67, 68] (by decide +kernel) (by decide +kernel)
set_option maxRecDepth 20000 in
theorem gX5_ifLength_X5_receive : GoodIn wsX5_ifLength (wsV RX5 127 RX5 yX5_receive wsX5_receive) := goodIn_app (goodIn_of _ (by decide +kernel)) ggX5_ifLength_X5_receive
set_option maxRecDepth 20000 in
theorem ggX5_ifLength_X5_ofKind : GoodIn wsX5_ifLength wsX5_ofKind := goodIn_r _ [44, 1, 14, 49, 50, 51, 52, 53, 54, 55, 56, 57, 58, 59, 60, 61, 62, 63, 64, 65, 66, 67, 68] (by decide +kernel) (by decide +kernel)
set_option maxRecDepth 20000 in
theorem gX5_ifLength_X5_ofKind : GoodIn wsX5_ifLength (wsV RX5 174 RX5 yX5_ofKind wsX5_ofKind) := goodIn_app (goodIn_of _ (by decide +kernel)) ggX5_ifLength_X5_ofKind
set_option maxRecDepth 20000 in
theorem ggX5_ifLength_X5_isWell : GoodIn wsX5_ifLength wsX5_isWell := goodIn_r _ [48, 1, 12, 14, 28, 49, 50, 51, 52, 53, 54, 55, 56, 57, 58, 59, 60, 61, 62, 63, 64, 65, 66, 67, 68] (by decide +kernel) (by decide +kernel)
set_option maxRecDepth 20000 in
theorem gX5_ifLength_X5_isWell : GoodIn wsX5_ifLength (wsV RX5 131 RX5 yX5_isWell wsX5_isWell) := goodIn_app (goodIn_of _ (by decide +kernel)) ggX5_ifLength_X5_isWell
theorem dX5_ifLength_0 : decode cX5_ifLength 0 = .ok (.iload_n 1, 1) := by decide +kernel
theorem dX5_ifLength_1 : decode cX5_ifLength 1 = .ok (.iconst 4, 1) := by decide +kernel
theorem dX5_ifLength_2 : decode cX5_ifLength 2 = .ok (.bipush 40, 2) := by decide +kernel
theorem dX5_ifLength_4 : decode cX5_ifLength 4 = .ok (.invokestatic 80, 3) := by decide +kernel
theorem dX5_ifLength_7 : decode cX5_ifLength 7 = .ok (.ifCond .eq 12, 3) := by decide +kernel
theorem dX5_ifLength_10 : decode cX5_ifLength 10 = .ok (.iload_n 2, 1) := by decide +kernel
theorem dX5_ifLength_11 : decode cX5_ifLength 11 = .ok (.iconst 0, 1) := by decide +kernel
theorem dX5_ifLength_12 : decode cX5_ifLength 12 = .ok (.iconst 3, 1) := by decide +kernel
theorem dX5_ifLength_13 : decode cX5_ifLength 13 = .ok (.invokestatic 80, 3) := by decide +kernel
theorem dX5_ifLength_16 : decode cX5_ifLength 16 = .ok (.ifCond .ne 6, 3) := by decide +kernel
theorem dX5_ifLength_19 : decode cX5_ifLength 19 = .ok (.bipush (-2), 2) := by decide +kernel
theorem dX5_ifLength_21 : decode cX5_ifLength 21 = .ok (.ireturn, 1) := by decide +kernel
theorem dX5_ifLength_22 : decode cX5_ifLength 22 = .ok (.aload_n 0, 1) := by decide +kernel
theorem dX5_ifLength_23 : decode cX5_ifLength 23 = .ok (.iload_n 1, 1) := by decide +kernel
theorem dX5_ifLength_24 : decode cX5_ifLength 24 = .ok (.invokevirtual 127, 3) := by decide +kernel
theorem dX5_ifLength_27 : decode cX5_ifLength 27 = .ok (.iload_n 2, 1) := by decide +kernel
theorem dX5_ifLength_28 : decode cX5_ifLength 28 = .ok (.ifCond .ne 10, 3) := by decide +kernel
theorem dX5_ifLength_31 : decode cX5_ifLength 31 = .ok (.aload_n 0, 1) := by decide +kernel
theorem dX5_ifLength_32 : decode cX5_ifLength 32 = .ok (.getfield 109, 3) := by decide +kernel
theorem dX5_ifLength_35 : decode cX5_ifLength 35 = .ok (.goto 40, 3) := by decide +kernel
theorem dX5_ifLength_38 : decode cX5_ifLength 38 = .ok (.iload_n 2, 1) := by decide +kernel
theorem dX5_ifLength_39 : decode cX5_ifLength 39 = .ok (.iconst 1, 1) := by decide +kernel
theorem dX5_ifLength_40 : decode cX5_ifLength 40 = .ok (.if_icmp .ne 11, 3) := by decide +kernel
theorem dX5_ifLength_43 : decode cX5_ifLength 43 = .ok (.aload_n 0, 1) := by decide +kernel
theorem dX5_ifLength_44 : decode cX5_ifLength 44 = .ok (.iconst 0, 1) := by decide +kernel
theorem dX5_ifLength_45 : decode cX5_ifLength 45 = .ok (.invokevirtual 174, 3) := by decide +kernel
theorem dX5_ifLength_48 : decode cX5_ifLength 48 = .ok (.goto 27, 3) := by decide +kernel
theorem dX5_ifLength_51 : decode cX5_ifLength 51 = .ok (.iload_n 2, 1) := by decide +kernel
theorem dX5_ifLength_52 : decode cX5_ifLength 52 = .ok (.iconst 2, 1) := by decide +kernel
theorem dX5_ifLength_53 : decode cX5_ifLength 53 = .ok (.if_icmp .ne 10, 3) := by decide +kernel
theorem dX5_ifLength_56 : decode cX5_ifLength 56 = .ok (.aload_n 0, 1) := by decide +kernel
theorem dX5_ifLength_57 : decode cX5_ifLength 57 = .ok (.getfield 118, 3) := by decide +kernel
theorem dX5_ifLength_60 : decode cX5_ifLength 60 = .ok (.goto 15, 3) := by decide +kernel
theorem dX5_ifLength_63 : decode cX5_ifLength 63 = .ok (.aload_n 0, 1) := by decide +kernel
theorem dX5_ifLength_64 : decode cX5_ifLength 64 = .ok (.invokevirtual 131, 3) := by decide +kernel
theorem dX5_ifLength_67 : decode cX5_ifLength 67 = .ok (.ifCond .eq 7, 3) := by decide +kernel
theorem dX5_ifLength_70 : decode cX5_ifLength 70 = .ok (.iconst 1, 1) := by decide +kernel
theorem dX5_ifLength_71 : decode cX5_ifLength 71 = .ok (.goto 4, 3) := by decide +kernel
theorem dX5_ifLength_74 : decode cX5_ifLength 74 = .ok (.iconst 0, 1) := by decide +kernel
theorem dX5_ifLength_75 : decode cX5_ifLength 75 = .ok (.ireturn, 1) := by decide +kernel
set_option maxRecDepth 20000 in
theorem ggX5_goodLength_X5_isWellWith : GoodIn wsX5_goodLength wsX5_isWellWith := goodIn_r _ [5, 6, 7, 8, 4, 9, 10, 11, 12, 13, 14, 15, 16, 17, 18, 19, 20, 21, 22, 23, 24, 25, 26, 27, 28, 29, 30, 31, 32, 33, 34, 35, 36, 37, 38, 39, 40, 41, 42, 43, 44, 45, 46, 47, 48, 49, 50, 51, 52, 53, 54, 55, 56, 57, 58, 59, 60, 61, 62, 63, 64, 65] (by decide +kernel) (by decide +kernel)
set_option maxRecDepth 20000 in
theorem gX5_goodLength_X5_isWellWith : GoodIn wsX5_goodLength (wsV RX5 186 RX5 yX5_isWellWith wsX5_isWellWith) := goodIn_app (goodIn_of _ (by decide +kernel)) ggX5_goodLength_X5_isWellWith
theorem dX5_goodLength_0 : decode cX5_goodLength 0 = .ok (.bipush (-5), 2) := by decide +kernel
theorem dX5_goodLength_2 : decode cX5_goodLength 2 = .ok (.istore_n 2, 1) := by decide +kernel
theorem dX5_goodLength_3 : decode cX5_goodLength 3 = .ok (.iconst 4, 1) := by decide +kernel
theorem dX5_goodLength_4 : decode cX5_goodLength 4 = .ok (.istore_n 3, 1) := by decide +kernel
theorem dX5_goodLength_5 : decode cX5_goodLength 5 = .ok (.iload_n 3, 1) := by decide +kernel
theorem dX5_goodLength_6 : decode cX5_goodLength 6 = .ok (.bipush 40, 2) := by decide +kernel
theorem dX5_goodLength_8 : decode cX5_goodLength 8 = .ok (.if_icmp .gt 33, 3) := by decide +kernel
theorem dX5_goodLength_11 : decode cX5_goodLength 11 = .ok (.aload_n 0, 1) := by decide +kernel
theorem dX5_goodLength_12 : decode cX5_goodLength 12 = .ok (.iload_n 3, 1) := by decide +kernel
theorem dX5_goodLength_13 : decode cX5_goodLength 13 = .ok (.invokevirtual 186, 3) := by decide +kernel
theorem dX5_goodLength_16 : decode cX5_goodLength 16 = .ok (.ifCond .eq 19, 3) := by decide +kernel
theorem dX5_goodLength_19 : decode cX5_goodLength 19 = .ok (.iload_n 2, 1) := by decide +kernel
theorem dX5_goodLength_20 : decode cX5_goodLength 20 = .ok (.bipush (-5), 2) := by decide +kernel
theorem dX5_goodLength_22 : decode cX5_goodLength 22 = .ok (.if_icmp .eq 7, 3) := by decide +kernel
theorem dX5_goodLength_25 : decode cX5_goodLength 25 = .ok (.iload_n 1, 1) := by decide +kernel
theorem dX5_goodLength_26 : decode cX5_goodLength 26 = .ok (.ifCond .eq 7, 3) := by decide +kernel
theorem dX5_goodLength_29 : decode cX5_goodLength 29 = .ok (.iload_n 3, 1) := by decide +kernel
theorem dX5_goodLength_30 : decode cX5_goodLength 30 = .ok (.goto 4, 3) := by decide +kernel
theorem dX5_goodLength_33 : decode cX5_goodLength 33 = .ok (.iload_n 2, 1) := by decide +kernel
theorem dX5_goodLength_34 : decode cX5_goodLength 34 = .ok (.istore_n 2, 1) := by decide +kernel
theorem dX5_goodLength_35 : decode cX5_goodLength 35 = .ok (.iinc 3 1, 3) := by decide +kernel
theorem dX5_goodLength_38 : decode cX5_goodLength 38 = .ok (.goto (-33), 3) := by decide +kernel
theorem dX5_goodLength_41 : decode cX5_goodLength 41 = .ok (.iload_n 2, 1) := by decide +kernel
theorem dX5_goodLength_42 : decode cX5_goodLength 42 = .ok (.ireturn, 1) := by decide +kernel
set_option maxRecDepth 20000 in
theorem ggX5_harm_X5_within : GoodIn wsX5_harm wsX5_within := goodIn_r _ [5] (by decide +kernel) (by decide +kernel)
set_option maxRecDepth 20000 in
theorem gX5_harm_X5_within : GoodIn wsX5_harm (va_wsS RX5 80 yX5_within wsX5_within) := goodIn_app (goodIn_of _ (by decide +kernel)) ggX5_harm_X5_within
set_option maxRecDepth 20000 in
theorem ggX5_harm_X5_flip : GoodIn wsX5_harm wsX5_flip := goodIn_r _ [9, 1, 53, 54, 55, 56, 57, 58, 59, 60, 61, 62, 63, 64, 65, 66, 67, 68, 69, 70, 71, 72] (by decide +kernel) (by decide +kernel)
set_option maxRecDepth 20000 in
theorem gX5_harm_X5_flip : GoodIn wsX5_harm (wsV RX5 96 RX5 yX5_flip wsX5_flip) := goodIn_app (goodIn_of _ (by decide +kernel)) ggX5_harm_X5_flip
set_option maxRecDepth 20000 in
theorem ggX5_harm_X5_isWellWith : GoodIn wsX5_harm wsX5_isWellWith := goodIn_r _ [13, 14, 15, 16, 4, 17, 18, 19, 20, 1, 21, 22, 23, 24, 25, 26, 27, 28, 29, 30, 31, 32, 33, 34, 35, 36, 37, 38, 39, 40, 41, 42, 43, 44, 45, 46, 47, 48, 49, 50, 51, 52, 53, 54, 55, 56, 57, 58, 59, 60, 61, 62, 63, 64, 65, 66, 67, 68, 69, 70, 71, 72] (by decide +kernel) (by decide +kernel)
set_option maxRecDepth 20000 in
theorem gX5_harm_X5_isWellWith : GoodIn wsX5_harm (wsV RX5 186 RX5 yX5_isWellWith wsX5_isWellWith) := goodIn_app (goodIn_of _ (by decide +kernel)) ggX5_harm_X5_isWellWith
theorem dX5_harm_0 : decode cX5_harm 0 = .ok (.iload_n 1, 1) := by decide +kernel
theorem dX5_harm_1 : decode cX5_harm 1 = .ok (.iconst 1, 1) := by decide +kernel
theorem dX5_harm_2 : decode cX5_harm 2 = .ok (.bipush 40, 2) := by decide +kernel
theorem dX5_harm_4 : decode cX5_harm 4 = .ok (.invokestatic 80, 3) := by decide +kernel
theorem dX5_harm_7 : decode cX5_harm 7 = .ok (.ifCond .ne 6, 3) := by decide +kernel
theorem dX5_harm_10 : decode cX5_harm 10 = .ok (.bipush (-2), 2) := by decide +kernel
theorem dX5_harm_12 : decode cX5_harm 12 = .ok (.ireturn, 1) := by decide +kernel
theorem dX5_harm_13 : decode cX5_harm 13 = .ok (.iconst 0, 1) := by decide +kernel
theorem dX5_harm_14 : decode cX5_harm 14 = .ok (.istore_n 2, 1) := by decide +kernel
theorem dX5_harm_15 : decode cX5_harm 15 = .ok (.iload_n 2, 1) := by decide +kernel
theorem dX5_harm_16 : decode cX5_harm 16 = .ok (.iload_n 1, 1) := by decide +kernel
theorem dX5_harm_17 : decode cX5_harm 17 = .ok (.iadd, 1) := by decide +kernel
theorem dX5_harm_18 : decode cX5_harm 18 = .ok (.aload_n 0, 1) := by decide +kernel
theorem dX5_harm_19 : decode cX5_harm 19 = .ok (.getfield 7, 3) := by decide +kernel
theorem dX5_harm_22 : decode cX5_harm 22 = .ok (.iconst 5, 1) := by decide +kernel
theorem dX5_harm_23 : decode cX5_harm 23 = .ok (.iaload, 1) := by decide +kernel
theorem dX5_harm_24 : decode cX5_harm 24 = .ok (.if_icmp .gt 38, 3) := by decide +kernel
theorem dX5_harm_27 : decode cX5_harm 27 = .ok (.aload_n 0, 1) := by decide +kernel
theorem dX5_harm_28 : decode cX5_harm 28 = .ok (.iload_n 2, 1) := by decide +kernel
theorem dX5_harm_29 : decode cX5_harm 29 = .ok (.iload_n 1, 1) := by decide +kernel
theorem dX5_harm_30 : decode cX5_harm 30 = .ok (.invokevirtual 96, 3) := by decide +kernel
theorem dX5_harm_33 : decode cX5_harm 33 = .ok (.aload_n 0, 1) := by decide +kernel
theorem dX5_harm_34 : decode cX5_harm 34 = .ok (.aload_n 0, 1) := by decide +kernel
theorem dX5_harm_35 : decode cX5_harm 35 = .ok (.getfield 7, 3) := by decide +kernel
theorem dX5_harm_38 : decode cX5_harm 38 = .ok (.iconst 1, 1) := by decide +kernel
theorem dX5_harm_39 : decode cX5_harm 39 = .ok (.iaload, 1) := by decide +kernel
theorem dX5_harm_40 : decode cX5_harm 40 = .ok (.invokevirtual 186, 3) := by decide +kernel
theorem dX5_harm_43 : decode cX5_harm 43 = .ok (.istore_n 3, 1) := by decide +kernel
theorem dX5_harm_44 : decode cX5_harm 44 = .ok (.aload_n 0, 1) := by decide +kernel
theorem dX5_harm_45 : decode cX5_harm 45 = .ok (.iload_n 2, 1) := by decide +kernel
theorem dX5_harm_46 : decode cX5_harm 46 = .ok (.iload_n 1, 1) := by decide +kernel
theorem dX5_harm_47 : decode cX5_harm 47 = .ok (.invokevirtual 96, 3) := by decide +kernel
theorem dX5_harm_50 : decode cX5_harm 50 = .ok (.iload_n 3, 1) := by decide +kernel
theorem dX5_harm_51 : decode cX5_harm 51 = .ok (.ifCond .ne 5, 3) := by decide +kernel
theorem dX5_harm_54 : decode cX5_harm 54 = .ok (.iload_n 2, 1) := by decide +kernel
theorem dX5_harm_55 : decode cX5_harm 55 = .ok (.ireturn, 1) := by decide +kernel
theorem dX5_harm_56 : decode cX5_harm 56 = .ok (.iinc 2 1, 3) := by decide +kernel
theorem dX5_harm_59 : decode cX5_harm 59 = .ok (.goto (-44), 3) := by decide +kernel
theorem dX5_harm_62 : decode cX5_harm 62 = .ok (.bipush (-5), 2) := by decide +kernel
theorem dX5_harm_64 : decode cX5_harm 64 = .ok (.ireturn, 1) := by decide +kernel
set_option maxRecDepth 20000 in
theorem ggX5_ifSent_X5_within : GoodIn wsX5_ifSent wsX5_within := goodIn_r _ [8] (by decide +kernel) (by decide +kernel)
set_option maxRecDepth 20000 in
theorem gX5_ifSent_X5_within : GoodIn wsX5_ifSent (va_wsS RX5 80 yX5_within wsX5_within) := goodIn_app (goodIn_of _ (by decide +kernel)) ggX5_ifSent_X5_within
set_option maxRecDepth 20000 in
theorem ggX5_ifSent_X5_putAside : GoodIn wsX5_ifSent wsX5_putAside := goodIn_r _ [12, 13, 1, 66, 67, 68, 69, 70, 71, 72, 73, 74, 75, 76, 77, 78, 79, 80, 81, 82, 83, 84, 85] (by decide +kernel) (by decide +kernel)
set_option maxRecDepth 20000 in
theorem gX5_ifSent_X5_putAside : GoodIn wsX5_ifSent (wsV RX5 50 RX5 yX5_putAside wsX5_putAside) := goodIn_app (goodIn_of _ (by decide +kernel)) ggX5_ifSent_X5_putAside
set_option maxRecDepth 20000 in
theorem ggX5_ifSent_X5_putWord : GoodIn wsX5_ifSent wsX5_putWord := goodIn_r _ [17, 1, 18, 19, 20, 7, 21, 22, 23, 24, 25, 26, 27, 28, 29, 30, 31, 32, 33, 34, 35, 36, 66, 67, 68, 69, 70, 71, 72, 73, 74, 75, 76, 77, 78, 79, 80, 81, 82, 83, 84, 85] (by decide +kernel) (by decide +kernel)
set_option maxRecDepth 20000 in
theorem gX5_ifSent_X5_putWord : GoodIn wsX5_ifSent (wsV RX5 84 RX5 yX5_putWord wsX5_putWord) := goodIn_app (goodIn_of _ (by decide +kernel)) ggX5_ifSent_X5_putWord
set_option maxRecDepth 20000 in
theorem ggX5_ifSent_X5_receive : GoodIn wsX5_ifSent wsX5_receive := goodIn_r _ [40, 2, 41, 42, 1, 43, 3, 44, 45, 46, 47, 7, 48, 49, 50, 51, 52, 53, 54, 55, 56, 4, 57, 58, 59, 60, 61, 30, 31, 32, 33, 34, 35, 36, 66, 67, 68, 69, 70, 71, 72, 73, 74, 75, 76, 77, 78, 79, 80, 81, 82, 83, 84, 85] (by decide +kernel) (by decide +kernel)
set_option maxRecDepth 20000 in
theorem gX5_ifSent_X5_receive : GoodIn wsX5_ifSent (wsV RX5 127 RX5 yX5_receive wsX5_receive) := goodIn_app (goodIn_of _ (by decide +kernel)) ggX5_ifSent_X5_receive
set_option maxRecDepth 20000 in
theorem ggX5_ifSent_X5_takeBack : GoodIn wsX5_ifSent wsX5_takeBack := goodIn_r _ [65, 1, 13, 66, 67, 68, 69, 70, 71, 72, 73, 74, 75, 76, 77, 78, 79, 80, 81, 82, 83, 84, 85] (by decide +kernel) (by decide +kernel)
set_option maxRecDepth 20000 in
theorem gX5_ifSent_X5_takeBack : GoodIn wsX5_ifSent (wsV RX5 168 RX5 yX5_takeBack wsX5_takeBack) := goodIn_app (goodIn_of _ (by decide +kernel)) ggX5_ifSent_X5_takeBack
theorem dX5_ifSent_0 : decode cX5_ifSent 0 = .ok (.iload_n 1, 1) := by decide +kernel
theorem dX5_ifSent_1 : decode cX5_ifSent 1 = .ok (.iconst 0, 1) := by decide +kernel
theorem dX5_ifSent_2 : decode cX5_ifSent 2 = .ok (.sipush 255, 3) := by decide +kernel
theorem dX5_ifSent_5 : decode cX5_ifSent 5 = .ok (.invokestatic 80, 3) := by decide +kernel
theorem dX5_ifSent_8 : decode cX5_ifSent 8 = .ok (.ifCond .ne 6, 3) := by decide +kernel
theorem dX5_ifSent_11 : decode cX5_ifSent 11 = .ok (.bipush (-2), 2) := by decide +kernel
theorem dX5_ifSent_13 : decode cX5_ifSent 13 = .ok (.ireturn, 1) := by decide +kernel
theorem dX5_ifSent_14 : decode cX5_ifSent 14 = .ok (.aload_n 0, 1) := by decide +kernel
theorem dX5_ifSent_15 : decode cX5_ifSent 15 = .ok (.invokevirtual 50, 3) := by decide +kernel
theorem dX5_ifSent_18 : decode cX5_ifSent 18 = .ok (.aload_n 0, 1) := by decide +kernel
theorem dX5_ifSent_19 : decode cX5_ifSent 19 = .ok (.iload_n 1, 1) := by decide +kernel
theorem dX5_ifSent_20 : decode cX5_ifSent 20 = .ok (.invokevirtual 84, 3) := by decide +kernel
theorem dX5_ifSent_23 : decode cX5_ifSent 23 = .ok (.ifCond .ne 6, 3) := by decide +kernel
theorem dX5_ifSent_26 : decode cX5_ifSent 26 = .ok (.bipush (-3), 2) := by decide +kernel
theorem dX5_ifSent_28 : decode cX5_ifSent 28 = .ok (.ireturn, 1) := by decide +kernel
theorem dX5_ifSent_29 : decode cX5_ifSent 29 = .ok (.aload_n 0, 1) := by decide +kernel
theorem dX5_ifSent_30 : decode cX5_ifSent 30 = .ok (.aload_n 0, 1) := by decide +kernel
theorem dX5_ifSent_31 : decode cX5_ifSent 31 = .ok (.getfield 7, 3) := by decide +kernel
theorem dX5_ifSent_34 : decode cX5_ifSent 34 = .ok (.iconst 1, 1) := by decide +kernel
theorem dX5_ifSent_35 : decode cX5_ifSent 35 = .ok (.iaload, 1) := by decide +kernel
theorem dX5_ifSent_36 : decode cX5_ifSent 36 = .ok (.invokevirtual 127, 3) := by decide +kernel
theorem dX5_ifSent_39 : decode cX5_ifSent 39 = .ok (.iconst 0, 1) := by decide +kernel
theorem dX5_ifSent_40 : decode cX5_ifSent 40 = .ok (.istore_n 2, 1) := by decide +kernel
theorem dX5_ifSent_41 : decode cX5_ifSent 41 = .ok (.iconst 0, 1) := by decide +kernel
theorem dX5_ifSent_42 : decode cX5_ifSent 42 = .ok (.istore_n 3, 1) := by decide +kernel
theorem dX5_ifSent_43 : decode cX5_ifSent 43 = .ok (.iload_n 3, 1) := by decide +kernel
theorem dX5_ifSent_44 : decode cX5_ifSent 44 = .ok (.aload_n 0, 1) := by decide +kernel
theorem dX5_ifSent_45 : decode cX5_ifSent 45 = .ok (.getfield 109, 3) := by decide +kernel
theorem dX5_ifSent_48 : decode cX5_ifSent 48 = .ok (.if_icmp .ge 36, 3) := by decide +kernel
theorem dX5_ifSent_51 : decode cX5_ifSent 51 = .ok (.iload_n 2, 1) := by decide +kernel
theorem dX5_ifSent_52 : decode cX5_ifSent 52 = .ok (.aload_n 0, 1) := by decide +kernel
theorem dX5_ifSent_53 : decode cX5_ifSent 53 = .ok (.getfield 31, 3) := by decide +kernel
theorem dX5_ifSent_56 : decode cX5_ifSent 56 = .ok (.iload_n 3, 1) := by decide +kernel
theorem dX5_ifSent_57 : decode cX5_ifSent 57 = .ok (.iaload, 1) := by decide +kernel
theorem dX5_ifSent_58 : decode cX5_ifSent 58 = .ok (.ifCond .ne 17, 3) := by decide +kernel
theorem dX5_ifSent_61 : decode cX5_ifSent 61 = .ok (.aload_n 0, 1) := by decide +kernel
theorem dX5_ifSent_62 : decode cX5_ifSent 62 = .ok (.getfield 34, 3) := by decide +kernel
theorem dX5_ifSent_65 : decode cX5_ifSent 65 = .ok (.iload_n 3, 1) := by decide +kernel
theorem dX5_ifSent_66 : decode cX5_ifSent 66 = .ok (.iaload, 1) := by decide +kernel
theorem dX5_ifSent_67 : decode cX5_ifSent 67 = .ok (.iload_n 1, 1) := by decide +kernel
theorem dX5_ifSent_68 : decode cX5_ifSent 68 = .ok (.if_icmp .ne 7, 3) := by decide +kernel
theorem dX5_ifSent_71 : decode cX5_ifSent 71 = .ok (.iconst 1, 1) := by decide +kernel
theorem dX5_ifSent_72 : decode cX5_ifSent 72 = .ok (.goto 4, 3) := by decide +kernel
theorem dX5_ifSent_75 : decode cX5_ifSent 75 = .ok (.iconst 0, 1) := by decide +kernel
theorem dX5_ifSent_76 : decode cX5_ifSent 76 = .ok (.iadd, 1) := by decide +kernel
theorem dX5_ifSent_77 : decode cX5_ifSent 77 = .ok (.istore_n 2, 1) := by decide +kernel
theorem dX5_ifSent_78 : decode cX5_ifSent 78 = .ok (.iinc 3 1, 3) := by decide +kernel
theorem dX5_ifSent_81 : decode cX5_ifSent 81 = .ok (.goto (-38), 3) := by decide +kernel
theorem dX5_ifSent_84 : decode cX5_ifSent 84 = .ok (.aload_n 0, 1) := by decide +kernel
theorem dX5_ifSent_85 : decode cX5_ifSent 85 = .ok (.invokevirtual 168, 3) := by decide +kernel
theorem dX5_ifSent_88 : decode cX5_ifSent 88 = .ok (.iload_n 2, 1) := by decide +kernel
theorem dX5_ifSent_89 : decode cX5_ifSent 89 = .ok (.ireturn, 1) := by decide +kernel
/-! ===== END printed ===== -/
