theorem dX2_nextFall_45 : decode cX2_nextFall 45 = .ok (.land, 1) := by decide +kernel
theorem dX2_nextFall_46 : decode cX2_nextFall 46 = .ok (.lstore 5, 2) := by decide +kernel
theorem dX2_nextFall_48 : decode cX2_nextFall 48 = .ok (.lload 5, 2) := by decide +kernel
theorem dX2_nextFall_50 : decode cX2_nextFall 50 = .ok (.lconst 0, 1) := by decide +kernel
theorem dX2_nextFall_51 : decode cX2_nextFall 51 = .ok (.lcmp, 1) := by decide +kernel
theorem dX2_nextFall_52 : decode cX2_nextFall 52 = .ok (.ifCond .eq 25, 3) := by decide +kernel
theorem dX2_nextFall_55 : decode cX2_nextFall 55 = .ok (.lload 5, 2) := by decide +kernel
theorem dX2_nextFall_57 : decode cX2_nextFall 57 = .ok (.lload 5, 2) := by decide +kernel
theorem dX2_nextFall_59 : decode cX2_nextFall 59 = .ok (.lneg, 1) := by decide +kernel
theorem dX2_nextFall_60 : decode cX2_nextFall 60 = .ok (.land, 1) := by decide +kernel
theorem dX2_nextFall_61 : decode cX2_nextFall 61 = .ok (.lstore 7, 2) := by decide +kernel
theorem dX2_nextFall_63 : decode cX2_nextFall 63 = .ok (.iload 4, 2) := by decide +kernel
theorem dX2_nextFall_65 : decode cX2_nextFall 65 = .ok (.bipush 64, 2) := by decide +kernel
theorem dX2_nextFall_67 : decode cX2_nextFall 67 = .ok (.imul, 1) := by decide +kernel
theorem dX2_nextFall_68 : decode cX2_nextFall 68 = .ok (.lload 7, 2) := by decide +kernel
theorem dX2_nextFall_70 : decode cX2_nextFall 70 = .ok (.lconst 1, 1) := by decide +kernel
theorem dX2_nextFall_71 : decode cX2_nextFall 71 = .ok (.lsub, 1) := by decide +kernel
theorem dX2_nextFall_72 : decode cX2_nextFall 72 = .ok (.invokestatic 78, 3) := by decide +kernel
theorem dX2_nextFall_75 : decode cX2_nextFall 75 = .ok (.iadd, 1) := by decide +kernel
theorem dX2_nextFall_76 : decode cX2_nextFall 76 = .ok (.ireturn, 1) := by decide +kernel
theorem dX2_nextFall_77 : decode cX2_nextFall 77 = .ok (.iinc 4 1, 3) := by decide +kernel
theorem dX2_nextFall_80 : decode cX2_nextFall 80 = .ok (.goto (-66), 3) := by decide +kernel
theorem dX2_nextFall_83 : decode cX2_nextFall 83 = .ok (.aload_n 0, 1) := by decide +kernel
theorem dX2_nextFall_84 : decode cX2_nextFall 84 = .ok (.getfield 39, 3) := by decide +kernel
theorem dX2_nextFall_87 : decode cX2_nextFall 87 = .ok (.ireturn, 1) := by decide +kernel
set_option maxRecDepth 20000 in
theorem ggX2_fallOfRank_X2_nextFall : GoodIn wsX2_fallOfRank wsX2_nextFall := goodIn_r _ [6, 7, 8, 9, 10, 11, 1, 12, 13, 14, 5, 15, 16, 17, 18, 19, 20, 21, 22, 23, 24, 25, 26, 27, 28] (by decide +kernel) (by decide +kernel)
set_option maxRecDepth 20000 in
theorem gX2_fallOfRank_X2_nextFall : GoodIn wsX2_fallOfRank (wsV RX2 84 RX2 yX2_nextFall wsX2_nextFall) := goodIn_app (goodIn_of _ (by decide +kernel)) ggX2_fallOfRank_X2_nextFall
theorem dX2_fallOfRank_0 : decode cX2_fallOfRank 0 = .ok (.aload_n 0, 1) := by decide +kernel
theorem dX2_fallOfRank_1 : decode cX2_fallOfRank 1 = .ok (.iconst 0, 1) := by decide +kernel
theorem dX2_fallOfRank_2 : decode cX2_fallOfRank 2 = .ok (.invokevirtual 84, 3) := by decide +kernel
theorem dX2_fallOfRank_5 : decode cX2_fallOfRank 5 = .ok (.istore_n 2, 1) := by decide +kernel
theorem dX2_fallOfRank_6 : decode cX2_fallOfRank 6 = .ok (.iconst 0, 1) := by decide +kernel
theorem dX2_fallOfRank_7 : decode cX2_fallOfRank 7 = .ok (.istore_n 3, 1) := by decide +kernel
theorem dX2_fallOfRank_8 : decode cX2_fallOfRank 8 = .ok (.iload_n 3, 1) := by decide +kernel
theorem dX2_fallOfRank_9 : decode cX2_fallOfRank 9 = .ok (.iload_n 1, 1) := by decide +kernel
theorem dX2_fallOfRank_10 : decode cX2_fallOfRank 10 = .ok (.if_icmp .ge 25, 3) := by decide +kernel
theorem dX2_fallOfRank_13 : decode cX2_fallOfRank 13 = .ok (.iload_n 2, 1) := by decide +kernel
theorem dX2_fallOfRank_14 : decode cX2_fallOfRank 14 = .ok (.aload_n 0, 1) := by decide +kernel
theorem dX2_fallOfRank_15 : decode cX2_fallOfRank 15 = .ok (.getfield 39, 3) := by decide +kernel
theorem dX2_fallOfRank_18 : decode cX2_fallOfRank 18 = .ok (.if_icmp .ge 17, 3) := by decide +kernel
theorem dX2_fallOfRank_21 : decode cX2_fallOfRank 21 = .ok (.aload_n 0, 1) := by decide +kernel
theorem dX2_fallOfRank_22 : decode cX2_fallOfRank 22 = .ok (.iload_n 2, 1) := by decide +kernel
theorem dX2_fallOfRank_23 : decode cX2_fallOfRank 23 = .ok (.iconst 1, 1) := by decide +kernel
theorem dX2_fallOfRank_24 : decode cX2_fallOfRank 24 = .ok (.iadd, 1) := by decide +kernel
theorem dX2_fallOfRank_25 : decode cX2_fallOfRank 25 = .ok (.invokevirtual 84, 3) := by decide +kernel
theorem dX2_fallOfRank_28 : decode cX2_fallOfRank 28 = .ok (.istore_n 2, 1) := by decide +kernel
theorem dX2_fallOfRank_29 : decode cX2_fallOfRank 29 = .ok (.iinc 3 1, 3) := by decide +kernel
theorem dX2_fallOfRank_32 : decode cX2_fallOfRank 32 = .ok (.goto (-24), 3) := by decide +kernel
theorem dX2_fallOfRank_35 : decode cX2_fallOfRank 35 = .ok (.iload_n 2, 1) := by decide +kernel
theorem dX2_fallOfRank_36 : decode cX2_fallOfRank 36 = .ok (.aload_n 0, 1) := by decide +kernel
theorem dX2_fallOfRank_37 : decode cX2_fallOfRank 37 = .ok (.getfield 39, 3) := by decide +kernel
theorem dX2_fallOfRank_40 : decode cX2_fallOfRank 40 = .ok (.if_icmp .ge 7, 3) := by decide +kernel
theorem dX2_fallOfRank_43 : decode cX2_fallOfRank 43 = .ok (.iload_n 2, 1) := by decide +kernel
theorem dX2_fallOfRank_44 : decode cX2_fallOfRank 44 = .ok (.goto 5, 3) := by decide +kernel
theorem dX2_fallOfRank_47 : decode cX2_fallOfRank 47 = .ok (.bipush (-5), 2) := by decide +kernel
theorem dX2_fallOfRank_49 : decode cX2_fallOfRank 49 = .ok (.ireturn, 1) := by decide +kernel
set_option maxRecDepth 20000 in
theorem ggX2_countFalls_X2_fallsIn : GoodIn wsX2_countFalls wsX2_fallsIn := goodIn_r _ [5, 6, 7, 15, 16, 17, 18, 19] (by decide +kernel) (by decide +kernel)
set_option maxRecDepth 20000 in
theorem gX2_countFalls_X2_fallsIn : GoodIn wsX2_countFalls (wsV RX2 74 RX2 yX2_fallsIn wsX2_fallsIn) := goodIn_app (goodIn_of _ (by decide +kernel)) ggX2_countFalls_X2_fallsIn
set_option maxRecDepth 20000 in
theorem ggX2_countFalls_J13_bitCount_95d88 : GoodIn wsX2_countFalls wsJ13_bitCount_95d88 := goodIn_r _ [11, 12, 13, 14] (by decide +kernel) (by decide +kernel)
set_option maxRecDepth 20000 in
theorem gX2_countFalls_J13_bitCount_95d88 : GoodIn wsX2_countFalls (va_wsS RX2 78 yJ13_bitCount_95d88 wsJ13_bitCount_95d88) := goodIn_app (goodIn_of _ (by decide +kernel)) ggX2_countFalls_J13_bitCount_95d88
theorem dX2_countFalls_0 : decode cX2_countFalls 0 = .ok (.iconst 0, 1) := by decide +kernel
theorem dX2_countFalls_1 : decode cX2_countFalls 1 = .ok (.istore_n 1, 1) := by decide +kernel
theorem dX2_countFalls_2 : decode cX2_countFalls 2 = .ok (.iconst 0, 1) := by decide +kernel
theorem dX2_countFalls_3 : decode cX2_countFalls 3 = .ok (.istore_n 2, 1) := by decide +kernel
theorem dX2_countFalls_4 : decode cX2_countFalls 4 = .ok (.iload_n 2, 1) := by decide +kernel
theorem dX2_countFalls_5 : decode cX2_countFalls 5 = .ok (.bipush 24, 2) := by decide +kernel
theorem dX2_countFalls_7 : decode cX2_countFalls 7 = .ok (.if_icmp .ge 20, 3) := by decide +kernel
theorem dX2_countFalls_10 : decode cX2_countFalls 10 = .ok (.iload_n 1, 1) := by decide +kernel
theorem dX2_countFalls_11 : decode cX2_countFalls 11 = .ok (.aload_n 0, 1) := by decide +kernel
theorem dX2_countFalls_12 : decode cX2_countFalls 12 = .ok (.iload_n 2, 1) := by decide +kernel
theorem dX2_countFalls_13 : decode cX2_countFalls 13 = .ok (.invokevirtual 74, 3) := by decide +kernel
theorem dX2_countFalls_16 : decode cX2_countFalls 16 = .ok (.invokestatic 78, 3) := by decide +kernel
theorem dX2_countFalls_19 : decode cX2_countFalls 19 = .ok (.iadd, 1) := by decide +kernel
theorem dX2_countFalls_20 : decode cX2_countFalls 20 = .ok (.istore_n 1, 1) := by decide +kernel
theorem dX2_countFalls_21 : decode cX2_countFalls 21 = .ok (.iinc 2 1, 3) := by decide +kernel
theorem dX2_countFalls_24 : decode cX2_countFalls 24 = .ok (.goto (-20), 3) := by decide +kernel
theorem dX2_countFalls_27 : decode cX2_countFalls 27 = .ok (.iload_n 1, 1) := by decide +kernel
theorem dX2_countFalls_28 : decode cX2_countFalls 28 = .ok (.ireturn, 1) := by decide +kernel
set_option maxRecDepth 20000 in
theorem ggX2_countLowTicks_J13_bitCount_95d88 : GoodIn wsX2_countLowTicks wsJ13_bitCount_95d88 := goodIn_r _ [6, 7, 8, 9] (by decide +kernel) (by decide +kernel)
set_option maxRecDepth 20000 in
theorem gX2_countLowTicks_J13_bitCount_95d88 : GoodIn wsX2_countLowTicks (va_wsS RX2 78 yJ13_bitCount_95d88 wsJ13_bitCount_95d88) := goodIn_app (goodIn_of _ (by decide +kernel)) ggX2_countLowTicks_J13_bitCount_95d88
theorem dX2_countLowTicks_0 : decode cX2_countLowTicks 0 = .ok (.iconst 0, 1) := by decide +kernel
theorem dX2_countLowTicks_1 : decode cX2_countLowTicks 1 = .ok (.istore_n 1, 1) := by decide +kernel
theorem dX2_countLowTicks_2 : decode cX2_countLowTicks 2 = .ok (.iconst 0, 1) := by decide +kernel
theorem dX2_countLowTicks_3 : decode cX2_countLowTicks 3 = .ok (.istore_n 2, 1) := by decide +kernel
theorem dX2_countLowTicks_4 : decode cX2_countLowTicks 4 = .ok (.iload_n 2, 1) := by decide +kernel
theorem dX2_countLowTicks_5 : decode cX2_countLowTicks 5 = .ok (.bipush 24, 2) := by decide +kernel
theorem dX2_countLowTicks_7 : decode cX2_countLowTicks 7 = .ok (.if_icmp .ge 25, 3) := by decide +kernel
theorem dX2_countLowTicks_10 : decode cX2_countLowTicks 10 = .ok (.iload_n 1, 1) := by decide +kernel
theorem dX2_countLowTicks_11 : decode cX2_countLowTicks 11 = .ok (.aload_n 0, 1) := by decide +kernel
theorem dX2_countLowTicks_12 : decode cX2_countLowTicks 12 = .ok (.getfield 11, 3) := by decide +kernel
theorem dX2_countLowTicks_15 : decode cX2_countLowTicks 15 = .ok (.iload_n 2, 1) := by decide +kernel
theorem dX2_countLowTicks_16 : decode cX2_countLowTicks 16 = .ok (.laload, 1) := by decide +kernel
theorem dX2_countLowTicks_17 : decode cX2_countLowTicks 17 = .ok (.ldc2_w 22, 3) := by decide +kernel
theorem dX2_countLowTicks_20 : decode cX2_countLowTicks 20 = .ok (.lxor, 1) := by decide +kernel
theorem dX2_countLowTicks_21 : decode cX2_countLowTicks 21 = .ok (.invokestatic 78, 3) := by decide +kernel
theorem dX2_countLowTicks_24 : decode cX2_countLowTicks 24 = .ok (.iadd, 1) := by decide +kernel
theorem dX2_countLowTicks_25 : decode cX2_countLowTicks 25 = .ok (.istore_n 1, 1) := by decide +kernel
theorem dX2_countLowTicks_26 : decode cX2_countLowTicks 26 = .ok (.iinc 2 1, 3) := by decide +kernel
theorem dX2_countLowTicks_29 : decode cX2_countLowTicks 29 = .ok (.goto (-25), 3) := by decide +kernel
theorem dX2_countLowTicks_32 : decode cX2_countLowTicks 32 = .ok (.iload_n 1, 1) := by decide +kernel
theorem dX2_countLowTicks_33 : decode cX2_countLowTicks 33 = .ok (.ireturn, 1) := by decide +kernel
set_option maxRecDepth 20000 in
theorem ggX2_learnedLength_X2_fallOfRank : GoodIn wsX2_learnedLength wsX2_fallOfRank := goodIn_r _ [5, 6, 7, 8, 9, 4, 10, 11, 12, 13, 14, 15, 16, 17, 18, 19, 20, 21, 22, 23, 24, 25, 26, 27, 28, 29, 30, 31, 32] (by decide +kernel) (by decide +kernel)
set_option maxRecDepth 20000 in
theorem gX2_learnedLength_X2_fallOfRank : GoodIn wsX2_learnedLength (wsV RX2 87 RX2 yX2_fallOfRank wsX2_fallOfRank) := goodIn_app (goodIn_of _ (by decide +kernel)) ggX2_learnedLength_X2_fallOfRank
theorem dX2_learnedLength_0 : decode cX2_learnedLength 0 = .ok (.aload_n 0, 1) := by decide +kernel
theorem dX2_learnedLength_1 : decode cX2_learnedLength 1 = .ok (.iconst 4, 1) := by decide +kernel
theorem dX2_learnedLength_2 : decode cX2_learnedLength 2 = .ok (.invokevirtual 87, 3) := by decide +kernel
theorem dX2_learnedLength_5 : decode cX2_learnedLength 5 = .ok (.istore_n 1, 1) := by decide +kernel
theorem dX2_learnedLength_6 : decode cX2_learnedLength 6 = .ok (.iload_n 1, 1) := by decide +kernel
theorem dX2_learnedLength_7 : decode cX2_learnedLength 7 = .ok (.bipush (-5), 2) := by decide +kernel
theorem dX2_learnedLength_9 : decode cX2_learnedLength 9 = .ok (.if_icmp .ne 6, 3) := by decide +kernel
theorem dX2_learnedLength_12 : decode cX2_learnedLength 12 = .ok (.bipush (-5), 2) := by decide +kernel
theorem dX2_learnedLength_14 : decode cX2_learnedLength 14 = .ok (.ireturn, 1) := by decide +kernel
theorem dX2_learnedLength_15 : decode cX2_learnedLength 15 = .ok (.iload_n 1, 1) := by decide +kernel
theorem dX2_learnedLength_16 : decode cX2_learnedLength 16 = .ok (.aload_n 0, 1) := by decide +kernel
theorem dX2_learnedLength_17 : decode cX2_learnedLength 17 = .ok (.iconst 0, 1) := by decide +kernel
theorem dX2_learnedLength_18 : decode cX2_learnedLength 18 = .ok (.invokevirtual 87, 3) := by decide +kernel
theorem dX2_learnedLength_21 : decode cX2_learnedLength 21 = .ok (.isub, 1) := by decide +kernel
theorem dX2_learnedLength_22 : decode cX2_learnedLength 22 = .ok (.iconst 4, 1) := by decide +kernel
theorem dX2_learnedLength_23 : decode cX2_learnedLength 23 = .ok (.iadd, 1) := by decide +kernel
theorem dX2_learnedLength_24 : decode cX2_learnedLength 24 = .ok (.istore_n 2, 1) := by decide +kernel
theorem dX2_learnedLength_25 : decode cX2_learnedLength 25 = .ok (.iload_n 2, 1) := by decide +kernel
theorem dX2_learnedLength_26 : decode cX2_learnedLength 26 = .ok (.bipush 8, 2) := by decide +kernel
theorem dX2_learnedLength_28 : decode cX2_learnedLength 28 = .ok (.idiv, 1) := by decide +kernel
theorem dX2_learnedLength_29 : decode cX2_learnedLength 29 = .ok (.istore_n 3, 1) := by decide +kernel
theorem dX2_learnedLength_30 : decode cX2_learnedLength 30 = .ok (.iload_n 3, 1) := by decide +kernel
theorem dX2_learnedLength_31 : decode cX2_learnedLength 31 = .ok (.iconst 4, 1) := by decide +kernel
theorem dX2_learnedLength_32 : decode cX2_learnedLength 32 = .ok (.if_icmp .lt 9, 3) := by decide +kernel
theorem dX2_learnedLength_35 : decode cX2_learnedLength 35 = .ok (.iload_n 3, 1) := by decide +kernel
theorem dX2_learnedLength_36 : decode cX2_learnedLength 36 = .ok (.bipush 40, 2) := by decide +kernel
theorem dX2_learnedLength_38 : decode cX2_learnedLength 38 = .ok (.if_icmp .le 8, 3) := by decide +kernel
theorem dX2_learnedLength_41 : decode cX2_learnedLength 41 = .ok (.bipush (-5), 2) := by decide +kernel
theorem dX2_learnedLength_43 : decode cX2_learnedLength 43 = .ok (.goto 4, 3) := by decide +kernel
theorem dX2_learnedLength_46 : decode cX2_learnedLength 46 = .ok (.iload_n 3, 1) := by decide +kernel
theorem dX2_learnedLength_47 : decode cX2_learnedLength 47 = .ok (.ireturn, 1) := by decide +kernel
theorem dX2_bitsOfWord_0 : decode cX2_bitsOfWord 0 = .ok (.aload_n 0, 1) := by decide +kernel
theorem dX2_bitsOfWord_1 : decode cX2_bitsOfWord 1 = .ok (.getfield 19, 3) := by decide +kernel
theorem dX2_bitsOfWord_4 : decode cX2_bitsOfWord 4 = .ok (.iconst 2, 1) := by decide +kernel
theorem dX2_bitsOfWord_5 : decode cX2_bitsOfWord 5 = .ok (.iaload, 1) := by decide +kernel
theorem dX2_bitsOfWord_6 : decode cX2_bitsOfWord 6 = .ok (.ifCond .ne 7, 3) := by decide +kernel
theorem dX2_bitsOfWord_9 : decode cX2_bitsOfWord 9 = .ok (.iconst 0, 1) := by decide +kernel
theorem dX2_bitsOfWord_10 : decode cX2_bitsOfWord 10 = .ok (.goto 4, 3) := by decide +kernel
theorem dX2_bitsOfWord_13 : decode cX2_bitsOfWord 13 = .ok (.iconst 1, 1) := by decide +kernel
theorem dX2_bitsOfWord_14 : decode cX2_bitsOfWord 14 = .ok (.istore_n 1, 1) := by decide +kernel
theorem dX2_bitsOfWord_15 : decode cX2_bitsOfWord 15 = .ok (.bipush 9, 2) := by decide +kernel
theorem dX2_bitsOfWord_17 : decode cX2_bitsOfWord 17 = .ok (.iload_n 1, 1) := by decide +kernel
theorem dX2_bitsOfWord_18 : decode cX2_bitsOfWord 18 = .ok (.iadd, 1) := by decide +kernel
theorem dX2_bitsOfWord_19 : decode cX2_bitsOfWord 19 = .ok (.aload_n 0, 1) := by decide +kernel
theorem dX2_bitsOfWord_20 : decode cX2_bitsOfWord 20 = .ok (.getfield 19, 3) := by decide +kernel
theorem dX2_bitsOfWord_23 : decode cX2_bitsOfWord 23 = .ok (.iconst 3, 1) := by decide +kernel
theorem dX2_bitsOfWord_24 : decode cX2_bitsOfWord 24 = .ok (.iaload, 1) := by decide +kernel
theorem dX2_bitsOfWord_25 : decode cX2_bitsOfWord 25 = .ok (.iadd, 1) := by decide +kernel
theorem dX2_bitsOfWord_26 : decode cX2_bitsOfWord 26 = .ok (.ireturn, 1) := by decide +kernel
set_option maxRecDepth 20000 in
theorem ggX2_bitsOf_X4_parityOf : GoodIn wsX2_bitsOf wsX4_parityOf := goodIn_r _ [4, 5, 6, 7, 8, 9, 10, 11] (by decide +kernel) (by decide +kernel)
set_option maxRecDepth 20000 in
theorem gX2_bitsOf_X4_parityOf_n90 : GoodIn wsX2_bitsOf (wsX4_parityOf) := ggX2_bitsOf_X4_parityOf
theorem dX2_bitsOf_0 : decode cX2_bitsOf 0 = .ok (.iload_n 1, 1) := by decide +kernel
theorem dX2_bitsOf_1 : decode cX2_bitsOf 1 = .ok (.iconst 1, 1) := by decide +kernel
theorem dX2_bitsOf_2 : decode cX2_bitsOf 2 = .ok (.ishl, 1) := by decide +kernel
theorem dX2_bitsOf_3 : decode cX2_bitsOf 3 = .ok (.istore_n 2, 1) := by decide +kernel
theorem dX2_bitsOf_4 : decode cX2_bitsOf 4 = .ok (.bipush 9, 2) := by decide +kernel
theorem dX2_bitsOf_6 : decode cX2_bitsOf 6 = .ok (.istore_n 3, 1) := by decide +kernel
theorem dX2_bitsOf_7 : decode cX2_bitsOf 7 = .ok (.aload_n 0, 1) := by decide +kernel
theorem dX2_bitsOf_8 : decode cX2_bitsOf 8 = .ok (.getfield 19, 3) := by decide +kernel
theorem dX2_bitsOf_11 : decode cX2_bitsOf 11 = .ok (.iconst 2, 1) := by decide +kernel
theorem dX2_bitsOf_12 : decode cX2_bitsOf 12 = .ok (.iaload, 1) := by decide +kernel
theorem dX2_bitsOf_13 : decode cX2_bitsOf 13 = .ok (.ifCond .eq 22, 3) := by decide +kernel
theorem dX2_bitsOf_16 : decode cX2_bitsOf 16 = .ok (.iload_n 2, 1) := by decide +kernel
theorem dX2_bitsOf_17 : decode cX2_bitsOf 17 = .ok (.iload_n 1, 1) := by decide +kernel
theorem dX2_bitsOf_18 : decode cX2_bitsOf 18 = .ok (.aload_n 0, 1) := by decide +kernel
theorem dX2_bitsOf_19 : decode cX2_bitsOf 19 = .ok (.getfield 19, 3) := by decide +kernel
theorem dX2_bitsOf_22 : decode cX2_bitsOf 22 = .ok (.iconst 2, 1) := by decide +kernel
theorem dX2_bitsOf_23 : decode cX2_bitsOf 23 = .ok (.iaload, 1) := by decide +kernel
theorem dX2_bitsOf_24 : decode cX2_bitsOf 24 = .ok (.invokestatic 90, 3) := by decide +kernel
theorem dX2_bitsOf_27 : decode cX2_bitsOf 27 = .ok (.bipush 9, 2) := by decide +kernel
theorem dX2_bitsOf_29 : decode cX2_bitsOf 29 = .ok (.ishl, 1) := by decide +kernel
theorem dX2_bitsOf_30 : decode cX2_bitsOf 30 = .ok (.ior, 1) := by decide +kernel
theorem dX2_bitsOf_31 : decode cX2_bitsOf 31 = .ok (.istore_n 2, 1) := by decide +kernel
theorem dX2_bitsOf_32 : decode cX2_bitsOf 32 = .ok (.iinc 3 1, 3) := by decide +kernel
theorem dX2_bitsOf_35 : decode cX2_bitsOf 35 = .ok (.iload_n 2, 1) := by decide +kernel
theorem dX2_bitsOf_36 : decode cX2_bitsOf 36 = .ok (.iconst 3, 1) := by decide +kernel
theorem dX2_bitsOf_37 : decode cX2_bitsOf 37 = .ok (.iload_n 3, 1) := by decide +kernel
theorem dX2_bitsOf_38 : decode cX2_bitsOf 38 = .ok (.ishl, 1) := by decide +kernel
theorem dX2_bitsOf_39 : decode cX2_bitsOf 39 = .ok (.ior, 1) := by decide +kernel
theorem dX2_bitsOf_40 : decode cX2_bitsOf 40 = .ok (.ireturn, 1) := by decide +kernel
theorem dX2_putLow_0 : decode cX2_putLow 0 = .ok (.iload_n 1, 1) := by decide +kernel
theorem dX2_putLow_1 : decode cX2_putLow 1 = .ok (.iconst 0, 1) := by decide +kernel
theorem dX2_putLow_2 : decode cX2_putLow 2 = .ok (.invokestatic 65, 3) := by decide +kernel
theorem dX2_putLow_5 : decode cX2_putLow 5 = .ok (.istore_n 3, 1) := by decide +kernel
theorem dX2_putLow_6 : decode cX2_putLow 6 = .ok (.iload_n 3, 1) := by decide +kernel
theorem dX2_putLow_7 : decode cX2_putLow 7 = .ok (.iload_n 2, 1) := by decide +kernel
theorem dX2_putLow_8 : decode cX2_putLow 8 = .ok (.if_icmp .ge 38, 3) := by decide +kernel
theorem dX2_putLow_11 : decode cX2_putLow 11 = .ok (.iload_n 3, 1) := by decide +kernel
theorem dX2_putLow_12 : decode cX2_putLow 12 = .ok (.sipush 1500, 3) := by decide +kernel
theorem dX2_putLow_15 : decode cX2_putLow 15 = .ok (.if_icmp .ge 31, 3) := by decide +kernel
theorem dX2_putLow_18 : decode cX2_putLow 18 = .ok (.aload_n 0, 1) := by decide +kernel
theorem dX2_putLow_19 : decode cX2_putLow 19 = .ok (.getfield 11, 3) := by decide +kernel
theorem dX2_putLow_22 : decode cX2_putLow 22 = .ok (.iload_n 3, 1) := by decide +kernel
theorem dX2_putLow_23 : decode cX2_putLow 23 = .ok (.bipush 64, 2) := by decide +kernel
theorem dX2_putLow_25 : decode cX2_putLow 25 = .ok (.idiv, 1) := by decide +kernel
theorem dX2_putLow_26 : decode cX2_putLow 26 = .ok (.dup2, 1) := by decide +kernel
theorem dX2_putLow_27 : decode cX2_putLow 27 = .ok (.laload, 1) := by decide +kernel
theorem dX2_putLow_28 : decode cX2_putLow 28 = .ok (.lconst 1, 1) := by decide +kernel
theorem dX2_putLow_29 : decode cX2_putLow 29 = .ok (.iload_n 3, 1) := by decide +kernel
theorem dX2_putLow_30 : decode cX2_putLow 30 = .ok (.bipush 64, 2) := by decide +kernel
theorem dX2_putLow_32 : decode cX2_putLow 32 = .ok (.irem, 1) := by decide +kernel
theorem dX2_putLow_33 : decode cX2_putLow 33 = .ok (.lshl, 1) := by decide +kernel
theorem dX2_putLow_34 : decode cX2_putLow 34 = .ok (.ldc2_w 22, 3) := by decide +kernel
theorem dX2_putLow_37 : decode cX2_putLow 37 = .ok (.lxor, 1) := by decide +kernel
theorem dX2_putLow_38 : decode cX2_putLow 38 = .ok (.land, 1) := by decide +kernel
theorem dX2_putLow_39 : decode cX2_putLow 39 = .ok (.lastore, 1) := by decide +kernel
theorem dX2_putLow_40 : decode cX2_putLow 40 = .ok (.iinc 3 1, 3) := by decide +kernel
theorem dX2_putLow_43 : decode cX2_putLow 43 = .ok (.goto (-37), 3) := by decide +kernel
theorem dX2_putLow_46 : decode cX2_putLow 46 = .ok (.return_, 1) := by decide +kernel
theorem dX2_fallsIn_0 : decode cX2_fallsIn 0 = .ok (.iload_n 1, 1) := by decide +kernel
theorem dX2_fallsIn_1 : decode cX2_fallsIn 1 = .ok (.ifCond .lt 9, 3) := by decide +kernel
theorem dX2_fallsIn_4 : decode cX2_fallsIn 4 = .ok (.iload_n 1, 1) := by decide +kernel
theorem dX2_fallsIn_5 : decode cX2_fallsIn 5 = .ok (.bipush 24, 2) := by decide +kernel
theorem dX2_fallsIn_7 : decode cX2_fallsIn 7 = .ok (.if_icmp .lt 5, 3) := by decide +kernel
theorem dX2_fallsIn_10 : decode cX2_fallsIn 10 = .ok (.lconst 0, 1) := by decide +kernel
theorem dX2_fallsIn_11 : decode cX2_fallsIn 11 = .ok (.lreturn, 1) := by decide +kernel
theorem dX2_fallsIn_12 : decode cX2_fallsIn 12 = .ok (.iload_n 1, 1) := by decide +kernel
theorem dX2_fallsIn_13 : decode cX2_fallsIn 13 = .ok (.ifCond .ne 7, 3) := by decide +kernel
theorem dX2_fallsIn_16 : decode cX2_fallsIn 16 = .ok (.lconst 1, 1) := by decide +kernel
theorem dX2_fallsIn_17 : decode cX2_fallsIn 17 = .ok (.goto 14, 3) := by decide +kernel
theorem dX2_fallsIn_20 : decode cX2_fallsIn 20 = .ok (.aload_n 0, 1) := by decide +kernel
theorem dX2_fallsIn_21 : decode cX2_fallsIn 21 = .ok (.getfield 11, 3) := by decide +kernel
theorem dX2_fallsIn_24 : decode cX2_fallsIn 24 = .ok (.iload_n 1, 1) := by decide +kernel
theorem dX2_fallsIn_25 : decode cX2_fallsIn 25 = .ok (.iconst 1, 1) := by decide +kernel
theorem dX2_fallsIn_26 : decode cX2_fallsIn 26 = .ok (.isub, 1) := by decide +kernel
theorem dX2_fallsIn_27 : decode cX2_fallsIn 27 = .ok (.laload, 1) := by decide +kernel
theorem dX2_fallsIn_28 : decode cX2_fallsIn 28 = .ok (.bipush 63, 2) := by decide +kernel
theorem dX2_fallsIn_30 : decode cX2_fallsIn 30 = .ok (.lushr, 1) := by decide +kernel
theorem dX2_fallsIn_31 : decode cX2_fallsIn 31 = .ok (.lstore_n 2, 1) := by decide +kernel
theorem dX2_fallsIn_32 : decode cX2_fallsIn 32 = .ok (.aload_n 0, 1) := by decide +kernel
theorem dX2_fallsIn_33 : decode cX2_fallsIn 33 = .ok (.getfield 11, 3) := by decide +kernel
theorem dX2_fallsIn_36 : decode cX2_fallsIn 36 = .ok (.iload_n 1, 1) := by decide +kernel
theorem dX2_fallsIn_37 : decode cX2_fallsIn 37 = .ok (.laload, 1) := by decide +kernel
theorem dX2_fallsIn_38 : decode cX2_fallsIn 38 = .ok (.iconst 1, 1) := by decide +kernel
theorem dX2_fallsIn_39 : decode cX2_fallsIn 39 = .ok (.lshl, 1) := by decide +kernel
theorem dX2_fallsIn_40 : decode cX2_fallsIn 40 = .ok (.lload_n 2, 1) := by decide +kernel
theorem dX2_fallsIn_41 : decode cX2_fallsIn 41 = .ok (.lor, 1) := by decide +kernel
theorem dX2_fallsIn_42 : decode cX2_fallsIn 42 = .ok (.aload_n 0, 1) := by decide +kernel
theorem dX2_fallsIn_43 : decode cX2_fallsIn 43 = .ok (.getfield 11, 3) := by decide +kernel
theorem dX2_fallsIn_46 : decode cX2_fallsIn 46 = .ok (.iload_n 1, 1) := by decide +kernel
theorem dX2_fallsIn_47 : decode cX2_fallsIn 47 = .ok (.laload, 1) := by decide +kernel
theorem dX2_fallsIn_48 : decode cX2_fallsIn 48 = .ok (.ldc2_w 22, 3) := by decide +kernel
theorem dX2_fallsIn_51 : decode cX2_fallsIn 51 = .ok (.lxor, 1) := by decide +kernel
theorem dX2_fallsIn_52 : decode cX2_fallsIn 52 = .ok (.land, 1) := by decide +kernel
theorem dX2_fallsIn_53 : decode cX2_fallsIn 53 = .ok (.lreturn, 1) := by decide +kernel
theorem dX3_init_0 : decode cX3_init 0 = .ok (.aload_n 0, 1) := by decide +kernel
theorem dX3_init_1 : decode cX3_init 1 = .ok (.invokespecial 5, 3) := by decide +kernel
theorem dX3_init_4 : decode cX3_init 4 = .ok (.aload_n 0, 1) := by decide +kernel
theorem dX3_init_5 : decode cX3_init 5 = .ok (.bipush 60, 2) := by decide +kernel
theorem dX3_init_7 : decode cX3_init 7 = .ok (.newarray .char, 2) := by decide +kernel
theorem dX3_init_9 : decode cX3_init 9 = .ok (.putfield 11, 3) := by decide +kernel
theorem dX3_init_12 : decode cX3_init 12 = .ok (.aload_n 0, 1) := by decide +kernel
theorem dX3_init_13 : decode cX3_init 13 = .ok (.bipush 30, 2) := by decide +kernel
theorem dX3_init_15 : decode cX3_init 15 = .ok (.newarray .int, 2) := by decide +kernel
theorem dX3_init_17 : decode cX3_init 17 = .ok (.putfield 15, 3) := by decide +kernel
theorem dX3_init_20 : decode cX3_init 20 = .ok (.aload_n 0, 1) := by decide +kernel
theorem dX3_init_21 : decode cX3_init 21 = .ok (.bipush 30, 2) := by decide +kernel
theorem dX3_init_23 : decode cX3_init 23 = .ok (.newarray .int, 2) := by decide +kernel
theorem dX3_init_25 : decode cX3_init 25 = .ok (.putfield 19, 3) := by decide +kernel
theorem dX3_init_28 : decode cX3_init 28 = .ok (.return_, 1) := by decide +kernel
theorem dX3_length_0 : decode cX3_length 0 = .ok (.aload_n 0, 1) := by decide +kernel
theorem dX3_length_1 : decode cX3_length 1 = .ok (.getfield 22, 3) := by decide +kernel
theorem dX3_length_4 : decode cX3_length 4 = .ok (.ireturn, 1) := by decide +kernel
set_option maxRecDepth 20000 in
theorem ggX4_init_X2_init : GoodIn wsX4_init wsX2_init := goodIn_r _ [23, 24, 2, 3, 25, 26, 27, 28, 29, 30, 31, 32, 33, 34, 35, 36, 37, 38, 61, 62, 63, 64, 65] (by decide +kernel) (by decide +kernel)
set_option maxRecDepth 20000 in
theorem gX4_init_X2_init : GoodIn wsX4_init (wsX2_init) := ggX4_init_X2_init
set_option maxRecDepth 20000 in
theorem ggX4_init_X1_init : GoodIn wsX4_init wsX1_init := goodIn_r _ [41, 42, 2, 3, 43, 27, 44, 71, 72, 73, 74] (by decide +kernel) (by decide +kernel)
set_option maxRecDepth 20000 in
theorem gX4_init_X1_init : GoodIn wsX4_init (wsX1_init) := ggX4_init_X1_init
set_option maxRecDepth 20000 in
theorem ggX4_init_X3_init : GoodIn wsX4_init wsX3_init := goodIn_r _ [47, 48, 2, 3, 49, 50, 27, 51, 52, 75, 76, 77, 78, 79] (by decide +kernel) (by decide +kernel)
set_option maxRecDepth 20000 in
theorem gX4_init_X3_init : GoodIn wsX4_init (wsX3_init) := ggX4_init_X3_init
set_option maxRecDepth 20000 in
theorem ggX4_init_X0_init : GoodIn wsX4_init wsX0_init := goodIn_r _ [55, 56, 2, 3, 57, 58, 5, 6, 59, 60, 22, 23, 24, 25, 26, 27, 28, 29, 30, 31, 32, 33, 34, 35, 36, 37, 38, 80, 81, 82, 83, 61, 62, 63, 64, 65] (by decide +kernel) (by decide +kernel)
set_option maxRecDepth 20000 in
theorem gX4_init_X0_init : GoodIn wsX4_init (wsX0_init) := ggX4_init_X0_init
theorem dX4_init_0 : decode cX4_init 0 = .ok (.aload_n 0, 1) := by decide +kernel
theorem dX4_init_1 : decode cX4_init 1 = .ok (.invokespecial 3, 3) := by decide +kernel
theorem dX4_init_4 : decode cX4_init 4 = .ok (.aload_n 0, 1) := by decide +kernel
theorem dX4_init_5 : decode cX4_init 5 = .ok (.new 9, 3) := by decide +kernel
theorem dX4_init_8 : decode cX4_init 8 = .ok (.dup, 1) := by decide +kernel
theorem dX4_init_9 : decode cX4_init 9 = .ok (.invokespecial 11, 3) := by decide +kernel
theorem dX4_init_12 : decode cX4_init 12 = .ok (.putfield 12, 3) := by decide +kernel
theorem dX4_init_15 : decode cX4_init 15 = .ok (.aload_n 0, 1) := by decide +kernel
theorem dX4_init_16 : decode cX4_init 16 = .ok (.new 9, 3) := by decide +kernel
theorem dX4_init_19 : decode cX4_init 19 = .ok (.dup, 1) := by decide +kernel
theorem dX4_init_20 : decode cX4_init 20 = .ok (.invokespecial 11, 3) := by decide +kernel
theorem dX4_init_23 : decode cX4_init 23 = .ok (.putfield 16, 3) := by decide +kernel
theorem dX4_init_26 : decode cX4_init 26 = .ok (.aload_n 0, 1) := by decide +kernel
theorem dX4_init_27 : decode cX4_init 27 = .ok (.new 19, 3) := by decide +kernel
theorem dX4_init_30 : decode cX4_init 30 = .ok (.dup, 1) := by decide +kernel
theorem dX4_init_31 : decode cX4_init 31 = .ok (.invokespecial 21, 3) := by decide +kernel
theorem dX4_init_34 : decode cX4_init 34 = .ok (.putfield 22, 3) := by decide +kernel
theorem dX4_init_37 : decode cX4_init 37 = .ok (.aload_n 0, 1) := by decide +kernel
theorem dX4_init_38 : decode cX4_init 38 = .ok (.new 26, 3) := by decide +kernel
theorem dX4_init_41 : decode cX4_init 41 = .ok (.dup, 1) := by decide +kernel
theorem dX4_init_42 : decode cX4_init 42 = .ok (.invokespecial 28, 3) := by decide +kernel
theorem dX4_init_45 : decode cX4_init 45 = .ok (.putfield 29, 3) := by decide +kernel
theorem dX4_init_48 : decode cX4_init 48 = .ok (.aload_n 0, 1) := by decide +kernel
theorem dX4_init_49 : decode cX4_init 49 = .ok (.new 33, 3) := by decide +kernel
theorem dX4_init_52 : decode cX4_init 52 = .ok (.dup, 1) := by decide +kernel
theorem dX4_init_53 : decode cX4_init 53 = .ok (.invokespecial 35, 3) := by decide +kernel
theorem dX4_init_56 : decode cX4_init 56 = .ok (.putfield 36, 3) := by decide +kernel
theorem dX4_init_59 : decode cX4_init 59 = .ok (.return_, 1) := by decide +kernel
set_option maxRecDepth 20000 in
theorem ggX4_send_X4_isWord : GoodIn wsX4_send wsX4_isWord := goodIn_r _ [6] (by decide +kernel) (by decide +kernel)
set_option maxRecDepth 20000 in
theorem gX4_send_X4_isWord : GoodIn wsX4_send (va_wsS RX4 40 yX4_isWord wsX4_isWord) := goodIn_app (goodIn_of _ (by decide +kernel)) ggX4_send_X4_isWord
set_option maxRecDepth 20000 in
theorem ggX4_send_X2_ticksOfWord : GoodIn wsX4_send wsX2_ticksOfWord := goodIn_r _ [11, 12, 13, 14, 15, 10, 16, 81, 82, 83, 84, 85] (by decide +kernel) (by decide +kernel)
set_option maxRecDepth 20000 in
theorem gX4_send_X2_ticksOfWord : GoodIn wsX4_send (wsV RX4 44 RX2 yX2_ticksOfWord wsX2_ticksOfWord) := goodIn_app (goodIn_of _ (by decide +kernel)) ggX4_send_X2_ticksOfWord
set_option maxRecDepth 20000 in
theorem ggX4_send_X2_hasRoom : GoodIn wsX4_send wsX2_hasRoom := goodIn_r _ [20, 21, 81, 82, 83, 84, 85] (by decide +kernel) (by decide +kernel)
set_option maxRecDepth 20000 in
theorem gX4_send_X2_hasRoom : GoodIn wsX4_send (wsV RX4 48 RX2 yX2_hasRoom wsX2_hasRoom) := goodIn_app (goodIn_of _ (by decide +kernel)) ggX4_send_X2_hasRoom
set_option maxRecDepth 20000 in
theorem ggX4_send_X0_remember : GoodIn wsX4_send wsX0_remember := goodIn_r _ [26, 27, 28, 29, 30, 31, 25, 32, 33, 34, 35, 10, 36, 37, 38, 39, 40, 41, 42, 12, 21, 43, 86, 87, 88, 89, 81, 82, 83, 84, 85] (by decide +kernel) (by decide +kernel)
set_option maxRecDepth 20000 in
theorem gX4_send_X0_remember : GoodIn wsX4_send (wsV RX4 51 RX0 yX0_remember wsX0_remember) := goodIn_app (goodIn_of _ (by decide +kernel)) ggX4_send_X0_remember
set_option maxRecDepth 20000 in
theorem ggX4_send_X2_addWord : GoodIn wsX4_send wsX2_addWord := goodIn_r _ [47, 43, 12, 21, 42, 48, 8, 9, 10, 11, 13, 14, 15, 16, 49, 18, 19, 20, 50, 51, 52, 53, 54, 5, 55, 56, 57, 58, 59, 60, 61, 62, 63, 64, 65, 66, 67, 68, 69, 70, 37, 71, 81, 82, 83, 84, 85] (by decide +kernel) (by decide +kernel)
set_option maxRecDepth 20000 in
theorem gX4_send_X2_addWord : GoodIn wsX4_send (wsV RX4 55 RX2 yX2_addWord wsX2_addWord) := goodIn_app (goodIn_of _ (by decide +kernel)) ggX4_send_X2_addWord
set_option maxRecDepth 20000 in
theorem ggX4_send_X2_end : GoodIn wsX4_send wsX2_end := goodIn_r _ [75, 21, 81, 82, 83, 84, 85] (by decide +kernel) (by decide +kernel)
set_option maxRecDepth 20000 in
theorem gX4_send_X2_end : GoodIn wsX4_send (wsV RX4 58 RX2 yX2_end wsX2_end) := goodIn_app (goodIn_of _ (by decide +kernel)) ggX4_send_X2_end
theorem dX4_send_0 : decode cX4_send 0 = .ok (.iload_n 1, 1) := by decide +kernel
theorem dX4_send_1 : decode cX4_send 1 = .ok (.invokestatic 40, 3) := by decide +kernel
theorem dX4_send_4 : decode cX4_send 4 = .ok (.ifCond .ne 6, 3) := by decide +kernel
theorem dX4_send_7 : decode cX4_send 7 = .ok (.bipush (-2), 2) := by decide +kernel
theorem dX4_send_9 : decode cX4_send 9 = .ok (.ireturn, 1) := by decide +kernel
theorem dX4_send_10 : decode cX4_send 10 = .ok (.aload_n 0, 1) := by decide +kernel
theorem dX4_send_11 : decode cX4_send 11 = .ok (.getfield 12, 3) := by decide +kernel
theorem dX4_send_14 : decode cX4_send 14 = .ok (.aload_n 0, 1) := by decide +kernel
theorem dX4_send_15 : decode cX4_send 15 = .ok (.getfield 12, 3) := by decide +kernel
theorem dX4_send_18 : decode cX4_send 18 = .ok (.invokevirtual 44, 3) := by decide +kernel
theorem dX4_send_21 : decode cX4_send 21 = .ok (.invokevirtual 48, 3) := by decide +kernel
theorem dX4_send_24 : decode cX4_send 24 = .ok (.ifCond .ne 6, 3) := by decide +kernel
theorem dX4_send_27 : decode cX4_send 27 = .ok (.bipush (-3), 2) := by decide +kernel
theorem dX4_send_29 : decode cX4_send 29 = .ok (.ireturn, 1) := by decide +kernel
theorem dX4_send_30 : decode cX4_send 30 = .ok (.aload_n 0, 1) := by decide +kernel
theorem dX4_send_31 : decode cX4_send 31 = .ok (.getfield 36, 3) := by decide +kernel
theorem dX4_send_34 : decode cX4_send 34 = .ok (.aload_n 0, 1) := by decide +kernel
theorem dX4_send_35 : decode cX4_send 35 = .ok (.getfield 12, 3) := by decide +kernel
theorem dX4_send_38 : decode cX4_send 38 = .ok (.invokevirtual 51, 3) := by decide +kernel
theorem dX4_send_41 : decode cX4_send 41 = .ok (.aload_n 0, 1) := by decide +kernel
theorem dX4_send_42 : decode cX4_send 42 = .ok (.getfield 12, 3) := by decide +kernel
theorem dX4_send_45 : decode cX4_send 45 = .ok (.iload_n 1, 1) := by decide +kernel
theorem dX4_send_46 : decode cX4_send 46 = .ok (.invokevirtual 55, 3) := by decide +kernel
theorem dX4_send_49 : decode cX4_send 49 = .ok (.pop, 1) := by decide +kernel
theorem dX4_send_50 : decode cX4_send 50 = .ok (.aload_n 0, 1) := by decide +kernel
theorem dX4_send_51 : decode cX4_send 51 = .ok (.getfield 12, 3) := by decide +kernel
theorem dX4_send_54 : decode cX4_send 54 = .ok (.invokevirtual 58, 3) := by decide +kernel
theorem dX4_send_57 : decode cX4_send 57 = .ok (.ireturn, 1) := by decide +kernel
set_option maxRecDepth 20000 in
theorem ggX4_pause_X4_sendStretch : GoodIn wsX4_pause wsX4_sendStretch := goodIn_r _ [5, 6, 7, 8, 9, 10, 11, 12, 13, 14, 15, 16, 17, 18, 19, 20, 21, 22, 23, 24, 25, 26, 27, 28, 29, 30, 31, 32, 33, 34, 35, 36, 37, 38, 39, 40, 41, 42, 43, 44, 45, 46, 47, 48, 49, 50, 51, 52, 53, 54, 55, 56, 57, 58, 59, 60, 61, 62, 63, 64, 65, 66, 67, 68] (by decide +kernel) (by decide +kernel)
set_option maxRecDepth 20000 in
theorem gX4_pause_X4_sendStretch : GoodIn wsX4_pause (wsV RX4 61 RX4 yX4_sendStretch wsX4_sendStretch) := goodIn_app (goodIn_of _ (by decide +kernel)) ggX4_pause_X4_sendStretch
theorem dX4_pause_0 : decode cX4_pause 0 = .ok (.aload_n 0, 1) := by decide +kernel
theorem dX4_pause_1 : decode cX4_pause 1 = .ok (.iconst 1, 1) := by decide +kernel
theorem dX4_pause_2 : decode cX4_pause 2 = .ok (.iload_n 1, 1) := by decide +kernel
theorem dX4_pause_3 : decode cX4_pause 3 = .ok (.invokevirtual 61, 3) := by decide +kernel
theorem dX4_pause_6 : decode cX4_pause 6 = .ok (.ireturn, 1) := by decide +kernel
set_option maxRecDepth 20000 in
theorem ggX4_sendBreak_X4_sendStretch : GoodIn wsX4_sendBreak wsX4_sendStretch := goodIn_r _ [5, 6, 7, 8, 9, 10, 11, 12, 13, 14, 15, 16, 17, 18, 19, 20, 21, 22, 23, 24, 25, 26, 27, 28, 29, 30, 31, 32, 33, 34, 35, 36, 37, 38, 39, 40, 41, 42, 43, 44, 45, 46, 47, 48, 49, 50, 51, 52, 53, 54, 55, 56, 57, 58, 59, 60, 61, 62, 63, 64, 65, 66, 67, 68] (by decide +kernel) (by decide +kernel)
set_option maxRecDepth 20000 in
theorem gX4_sendBreak_X4_sendStretch : GoodIn wsX4_sendBreak (wsV RX4 61 RX4 yX4_sendStretch wsX4_sendStretch) := goodIn_app (goodIn_of _ (by decide +kernel)) ggX4_sendBreak_X4_sendStretch
theorem dX4_sendBreak_0 : decode cX4_sendBreak 0 = .ok (.aload_n 0, 1) := by decide +kernel
theorem dX4_sendBreak_1 : decode cX4_sendBreak 1 = .ok (.iconst 0, 1) := by decide +kernel
theorem dX4_sendBreak_2 : decode cX4_sendBreak 2 = .ok (.iload_n 1, 1) := by decide +kernel
theorem dX4_sendBreak_3 : decode cX4_sendBreak 3 = .ok (.invokevirtual 61, 3) := by decide +kernel
theorem dX4_sendBreak_6 : decode cX4_sendBreak 6 = .ok (.ireturn, 1) := by decide +kernel
set_option maxRecDepth 20000 in
theorem ggX4_disturb_X4_isDisturbance : GoodIn wsX4_disturb wsX4_isDisturbance := goodIn_r _ [6] (by decide +kernel) (by decide +kernel)
set_option maxRecDepth 20000 in
theorem gX4_disturb_X4_isDisturbance : GoodIn wsX4_disturb (va_wsS RX4 65 yX4_isDisturbance wsX4_isDisturbance) := goodIn_app (goodIn_of _ (by decide +kernel)) ggX4_disturb_X4_isDisturbance
set_option maxRecDepth 20000 in
theorem ggX4_disturb_X2_end : GoodIn wsX4_disturb wsX2_end := goodIn_r _ [11, 12, 53, 54, 55, 56, 57] (by decide +kernel) (by decide +kernel)
set_option maxRecDepth 20000 in
theorem gX4_disturb_X2_end : GoodIn wsX4_disturb (wsV RX4 58 RX2 yX2_end wsX2_end) := goodIn_app (goodIn_of _ (by decide +kernel)) ggX4_disturb_X2_end
set_option maxRecDepth 20000 in
theorem ggX4_disturb_X0_remember : GoodIn wsX4_disturb wsX0_remember := goodIn_r _ [17, 18, 19, 20, 21, 22, 16, 23, 24, 25, 26, 10, 27, 28, 29, 30, 31, 32, 33, 34, 12, 35, 58, 59, 60, 61, 53, 54, 55, 56, 57] (by decide +kernel) (by decide +kernel)
set_option maxRecDepth 20000 in
theorem gX4_disturb_X0_remember : GoodIn wsX4_disturb (wsV RX4 51 RX0 yX0_remember wsX0_remember) := goodIn_app (goodIn_of _ (by decide +kernel)) ggX4_disturb_X0_remember
set_option maxRecDepth 20000 in
theorem ggX4_disturb_X2_flip : GoodIn wsX4_disturb wsX2_flip := goodIn_r _ [39, 40, 41, 42, 43, 12, 28, 44, 45, 46, 10, 47, 53, 54, 55, 56, 57] (by decide +kernel) (by decide +kernel)
set_option maxRecDepth 20000 in
theorem gX4_disturb_X2_flip : GoodIn wsX4_disturb (wsV RX4 68 RX2 yX2_flip wsX2_flip) := goodIn_app (goodIn_of _ (by decide +kernel)) ggX4_disturb_X2_flip
theorem dX4_disturb_0 : decode cX4_disturb 0 = .ok (.iload_n 2, 1) := by decide +kernel
theorem dX4_disturb_1 : decode cX4_disturb 1 = .ok (.invokestatic 65, 3) := by decide +kernel
theorem dX4_disturb_4 : decode cX4_disturb 4 = .ok (.ifCond .eq 20, 3) := by decide +kernel
theorem dX4_disturb_7 : decode cX4_disturb 7 = .ok (.iload_n 1, 1) := by decide +kernel
theorem dX4_disturb_8 : decode cX4_disturb 8 = .ok (.ifCond .lt 16, 3) := by decide +kernel
theorem dX4_disturb_11 : decode cX4_disturb 11 = .ok (.iload_n 1, 1) := by decide +kernel
theorem dX4_disturb_12 : decode cX4_disturb 12 = .ok (.aload_n 0, 1) := by decide +kernel
theorem dX4_disturb_13 : decode cX4_disturb 13 = .ok (.getfield 12, 3) := by decide +kernel
theorem dX4_disturb_16 : decode cX4_disturb 16 = .ok (.invokevirtual 58, 3) := by decide +kernel
theorem dX4_disturb_19 : decode cX4_disturb 19 = .ok (.iload_n 2, 1) := by decide +kernel
theorem dX4_disturb_20 : decode cX4_disturb 20 = .ok (.isub, 1) := by decide +kernel
theorem dX4_disturb_21 : decode cX4_disturb 21 = .ok (.if_icmp .le 6, 3) := by decide +kernel
theorem dX4_disturb_24 : decode cX4_disturb 24 = .ok (.bipush (-2), 2) := by decide +kernel
theorem dX4_disturb_26 : decode cX4_disturb 26 = .ok (.ireturn, 1) := by decide +kernel
theorem dX4_disturb_27 : decode cX4_disturb 27 = .ok (.aload_n 0, 1) := by decide +kernel
theorem dX4_disturb_28 : decode cX4_disturb 28 = .ok (.getfield 36, 3) := by decide +kernel
theorem dX4_disturb_31 : decode cX4_disturb 31 = .ok (.aload_n 0, 1) := by decide +kernel
theorem dX4_disturb_32 : decode cX4_disturb 32 = .ok (.getfield 12, 3) := by decide +kernel
theorem dX4_disturb_35 : decode cX4_disturb 35 = .ok (.invokevirtual 51, 3) := by decide +kernel
theorem dX4_disturb_38 : decode cX4_disturb 38 = .ok (.aload_n 0, 1) := by decide +kernel
theorem dX4_disturb_39 : decode cX4_disturb 39 = .ok (.getfield 12, 3) := by decide +kernel
theorem dX4_disturb_42 : decode cX4_disturb 42 = .ok (.iload_n 1, 1) := by decide +kernel
theorem dX4_disturb_43 : decode cX4_disturb 43 = .ok (.iload_n 2, 1) := by decide +kernel
theorem dX4_disturb_44 : decode cX4_disturb 44 = .ok (.invokevirtual 68, 3) := by decide +kernel
theorem dX4_disturb_47 : decode cX4_disturb 47 = .ok (.ireturn, 1) := by decide +kernel
set_option maxRecDepth 20000 in
theorem ggX4_clear_X2_end : GoodIn wsX4_clear wsX2_end := goodIn_r _ [7, 8, 46, 47, 48, 49, 50] (by decide +kernel) (by decide +kernel)
set_option maxRecDepth 20000 in
theorem gX4_clear_X2_end : GoodIn wsX4_clear (wsV RX4 58 RX2 yX2_end wsX2_end) := goodIn_app (goodIn_of _ (by decide +kernel)) ggX4_clear_X2_end
set_option maxRecDepth 20000 in
theorem ggX4_clear_X0_remember : GoodIn wsX4_clear wsX0_remember := goodIn_r _ [13, 14, 15, 16, 17, 18, 12, 19, 20, 21, 22, 6, 23, 24, 25, 26, 27, 28, 29, 30, 8, 31, 51, 52, 53, 54, 46, 47, 48, 49, 50] (by decide +kernel) (by decide +kernel)
set_option maxRecDepth 20000 in
theorem gX4_clear_X0_remember : GoodIn wsX4_clear (wsV RX4 51 RX0 yX0_remember wsX0_remember) := goodIn_app (goodIn_of _ (by decide +kernel)) ggX4_clear_X0_remember
set_option maxRecDepth 20000 in
theorem ggX4_clear_X2_clearWire : GoodIn wsX4_clear wsX2_clearWire := goodIn_r _ [35, 24, 36, 8, 31, 37, 38, 39, 40, 46, 47, 48, 49, 50] (by decide +kernel) (by decide +kernel)
set_option maxRecDepth 20000 in
theorem gX4_clear_X2_clearWire : GoodIn wsX4_clear (wsV RX4 71 RX2 yX2_clearWire wsX2_clearWire) := goodIn_app (goodIn_of _ (by decide +kernel)) ggX4_clear_X2_clearWire
theorem dX4_clear_0 : decode cX4_clear 0 = .ok (.aload_n 0, 1) := by decide +kernel
theorem dX4_clear_1 : decode cX4_clear 1 = .ok (.getfield 12, 3) := by decide +kernel
theorem dX4_clear_4 : decode cX4_clear 4 = .ok (.invokevirtual 58, 3) := by decide +kernel
theorem dX4_clear_7 : decode cX4_clear 7 = .ok (.istore_n 1, 1) := by decide +kernel
theorem dX4_clear_8 : decode cX4_clear 8 = .ok (.aload_n 0, 1) := by decide +kernel
theorem dX4_clear_9 : decode cX4_clear 9 = .ok (.getfield 36, 3) := by decide +kernel
theorem dX4_clear_12 : decode cX4_clear 12 = .ok (.aload_n 0, 1) := by decide +kernel
theorem dX4_clear_13 : decode cX4_clear 13 = .ok (.getfield 12, 3) := by decide +kernel
theorem dX4_clear_16 : decode cX4_clear 16 = .ok (.invokevirtual 51, 3) := by decide +kernel
theorem dX4_clear_19 : decode cX4_clear 19 = .ok (.aload_n 0, 1) := by decide +kernel
theorem dX4_clear_20 : decode cX4_clear 20 = .ok (.getfield 12, 3) := by decide +kernel
theorem dX4_clear_23 : decode cX4_clear 23 = .ok (.invokevirtual 71, 3) := by decide +kernel
theorem dX4_clear_26 : decode cX4_clear 26 = .ok (.iload_n 1, 1) := by decide +kernel
theorem dX4_clear_27 : decode cX4_clear 27 = .ok (.ireturn, 1) := by decide +kernel
set_option maxRecDepth 20000 in
theorem ggX4_set_X2_setting : GoodIn wsX4_set wsX2_setting := goodIn_r _ [9, 10, 43, 44, 45, 46, 47] (by decide +kernel) (by decide +kernel)
set_option maxRecDepth 20000 in
theorem gX4_set_X2_setting : GoodIn wsX4_set (wsV RX4 81 RX2 yX2_setting wsX2_setting) := goodIn_app (goodIn_of _ (by decide +kernel)) ggX4_set_X2_setting
set_option maxRecDepth 20000 in
theorem ggX4_set_X0_remember : GoodIn wsX4_set wsX0_remember := goodIn_r _ [15, 16, 17, 18, 19, 20, 14, 21, 22, 23, 24, 8, 25, 26, 27, 28, 29, 30, 31, 10, 32, 33, 48, 49, 50, 51, 43, 44, 45, 46, 47] (by decide +kernel) (by decide +kernel)
set_option maxRecDepth 20000 in
theorem gX4_set_X0_remember : GoodIn wsX4_set (wsV RX4 51 RX0 yX0_remember wsX0_remember) := goodIn_app (goodIn_of _ (by decide +kernel)) ggX4_set_X0_remember
set_option maxRecDepth 20000 in
theorem ggX4_set_X2_change : GoodIn wsX4_set wsX2_change := goodIn_r _ [37, 10, 43, 44, 45, 46, 47] (by decide +kernel) (by decide +kernel)
set_option maxRecDepth 20000 in
theorem gX4_set_X2_change : GoodIn wsX4_set (wsV RX4 85 RX2 yX2_change wsX2_change) := goodIn_app (goodIn_of _ (by decide +kernel)) ggX4_set_X2_change
theorem dX4_set_0 : decode cX4_set 0 = .ok (.iload_n 1, 1) := by decide +kernel
theorem dX4_set_1 : decode cX4_set 1 = .ok (.ifCond .lt 8, 3) := by decide +kernel
theorem dX4_set_4 : decode cX4_set 4 = .ok (.iload_n 1, 1) := by decide +kernel
theorem dX4_set_5 : decode cX4_set 5 = .ok (.iconst 5, 1) := by decide +kernel
theorem dX4_set_6 : decode cX4_set 6 = .ok (.if_icmp .lt 5, 3) := by decide +kernel
theorem dX4_set_9 : decode cX4_set 9 = .ok (.iconst (-1), 1) := by decide +kernel
theorem dX4_set_10 : decode cX4_set 10 = .ok (.ireturn, 1) := by decide +kernel
theorem dX4_set_11 : decode cX4_set 11 = .ok (.iload_n 2, 1) := by decide +kernel
theorem dX4_set_12 : decode cX4_set 12 = .ok (.getstatic 74, 3) := by decide +kernel
theorem dX4_set_15 : decode cX4_set 15 = .ok (.iload_n 1, 1) := by decide +kernel
theorem dX4_set_16 : decode cX4_set 16 = .ok (.iaload, 1) := by decide +kernel
theorem dX4_set_17 : decode cX4_set 17 = .ok (.if_icmp .lt 12, 3) := by decide +kernel
theorem dX4_set_20 : decode cX4_set 20 = .ok (.iload_n 2, 1) := by decide +kernel
theorem dX4_set_21 : decode cX4_set 21 = .ok (.getstatic 78, 3) := by decide +kernel
theorem dX4_set_24 : decode cX4_set 24 = .ok (.iload_n 1, 1) := by decide +kernel
theorem dX4_set_25 : decode cX4_set 25 = .ok (.iaload, 1) := by decide +kernel
theorem dX4_set_26 : decode cX4_set 26 = .ok (.if_icmp .le 6, 3) := by decide +kernel
theorem dX4_set_29 : decode cX4_set 29 = .ok (.bipush (-2), 2) := by decide +kernel
theorem dX4_set_31 : decode cX4_set 31 = .ok (.ireturn, 1) := by decide +kernel
theorem dX4_set_32 : decode cX4_set 32 = .ok (.aload_n 0, 1) := by decide +kernel
theorem dX4_set_33 : decode cX4_set 33 = .ok (.getfield 12, 3) := by decide +kernel
theorem dX4_set_36 : decode cX4_set 36 = .ok (.iload_n 1, 1) := by decide +kernel
theorem dX4_set_37 : decode cX4_set 37 = .ok (.invokevirtual 81, 3) := by decide +kernel
theorem dX4_set_40 : decode cX4_set 40 = .ok (.istore_n 3, 1) := by decide +kernel
theorem dX4_set_41 : decode cX4_set 41 = .ok (.iload_n 2, 1) := by decide +kernel
theorem dX4_set_42 : decode cX4_set 42 = .ok (.iload_n 3, 1) := by decide +kernel
theorem dX4_set_43 : decode cX4_set 43 = .ok (.if_icmp .ne 6, 3) := by decide +kernel
theorem dX4_set_46 : decode cX4_set 46 = .ok (.bipush (-5), 2) := by decide +kernel
theorem dX4_set_48 : decode cX4_set 48 = .ok (.ireturn, 1) := by decide +kernel
theorem dX4_set_49 : decode cX4_set 49 = .ok (.aload_n 0, 1) := by decide +kernel
theorem dX4_set_50 : decode cX4_set 50 = .ok (.getfield 36, 3) := by decide +kernel
theorem dX4_set_53 : decode cX4_set 53 = .ok (.aload_n 0, 1) := by decide +kernel
theorem dX4_set_54 : decode cX4_set 54 = .ok (.getfield 12, 3) := by decide +kernel
theorem dX4_set_57 : decode cX4_set 57 = .ok (.invokevirtual 51, 3) := by decide +kernel
theorem dX4_set_60 : decode cX4_set 60 = .ok (.aload_n 0, 1) := by decide +kernel
theorem dX4_set_61 : decode cX4_set 61 = .ok (.getfield 12, 3) := by decide +kernel
theorem dX4_set_64 : decode cX4_set 64 = .ok (.iload_n 1, 1) := by decide +kernel
theorem dX4_set_65 : decode cX4_set 65 = .ok (.iload_n 2, 1) := by decide +kernel
theorem dX4_set_66 : decode cX4_set 66 = .ok (.invokevirtual 85, 3) := by decide +kernel
theorem dX4_set_69 : decode cX4_set 69 = .ok (.iload_n 3, 1) := by decide +kernel
theorem dX4_set_70 : decode cX4_set 70 = .ok (.ireturn, 1) := by decide +kernel
set_option maxRecDepth 20000 in
theorem ggX4_learn_X2_learnedLength : GoodIn wsX4_learn wsX2_learnedLength := goodIn_r _ [7, 8, 9, 10, 6, 11, 12, 13, 14, 15, 16, 17, 18, 19, 20, 21, 22, 23, 24, 25, 26, 27, 28, 29, 30, 31, 32, 33, 69, 70, 71, 72, 73] (by decide +kernel) (by decide +kernel)
set_option maxRecDepth 20000 in
theorem gX4_learn_X2_learnedLength : GoodIn wsX4_learn (wsV RX4 89 RX2 yX2_learnedLength wsX2_learnedLength) := goodIn_app (goodIn_of _ (by decide +kernel)) ggX4_learn_X2_learnedLength
set_option maxRecDepth 20000 in
theorem ggX4_learn_X2_setting : GoodIn wsX4_learn wsX2_setting := goodIn_r _ [37, 38, 69, 70, 71, 72, 73] (by decide +kernel) (by decide +kernel)
set_option maxRecDepth 20000 in
theorem gX4_learn_X2_setting : GoodIn wsX4_learn (wsV RX4 81 RX2 yX2_setting wsX2_setting) := goodIn_app (goodIn_of _ (by decide +kernel)) ggX4_learn_X2_setting
set_option maxRecDepth 20000 in
theorem ggX4_learn_X0_remember : GoodIn wsX4_learn wsX0_remember := goodIn_r _ [43, 44, 45, 46, 47, 48, 42, 49, 50, 51, 52, 6, 53, 26, 54, 55, 56, 57, 58, 38, 12, 59, 74, 75, 76, 77, 69, 70, 71, 72, 73] (by decide +kernel) (by decide +kernel)
set_option maxRecDepth 20000 in
theorem gX4_learn_X0_remember : GoodIn wsX4_learn (wsV RX4 51 RX0 yX0_remember wsX0_remember) := goodIn_app (goodIn_of _ (by decide +kernel)) ggX4_learn_X0_remember
set_option maxRecDepth 20000 in
theorem ggX4_learn_X2_change : GoodIn wsX4_learn wsX2_change := goodIn_r _ [63, 38, 69, 70, 71, 72, 73] (by decide +kernel) (by decide +kernel)
set_option maxRecDepth 20000 in
theorem gX4_learn_X2_change : GoodIn wsX4_learn (wsV RX4 85 RX2 yX2_change wsX2_change) := goodIn_app (goodIn_of _ (by decide +kernel)) ggX4_learn_X2_change
theorem dX4_learn_0 : decode cX4_learn 0 = .ok (.aload_n 0, 1) := by decide +kernel
theorem dX4_learn_1 : decode cX4_learn 1 = .ok (.getfield 12, 3) := by decide +kernel
theorem dX4_learn_4 : decode cX4_learn 4 = .ok (.invokevirtual 89, 3) := by decide +kernel
theorem dX4_learn_7 : decode cX4_learn 7 = .ok (.istore_n 1, 1) := by decide +kernel
theorem dX4_learn_8 : decode cX4_learn 8 = .ok (.iload_n 1, 1) := by decide +kernel
theorem dX4_learn_9 : decode cX4_learn 9 = .ok (.bipush (-5), 2) := by decide +kernel
theorem dX4_learn_11 : decode cX4_learn 11 = .ok (.if_icmp .eq 15, 3) := by decide +kernel
theorem dX4_learn_14 : decode cX4_learn 14 = .ok (.iload_n 1, 1) := by decide +kernel
theorem dX4_learn_15 : decode cX4_learn 15 = .ok (.aload_n 0, 1) := by decide +kernel
theorem dX4_learn_16 : decode cX4_learn 16 = .ok (.getfield 12, 3) := by decide +kernel
theorem dX4_learn_19 : decode cX4_learn 19 = .ok (.iconst 1, 1) := by decide +kernel
theorem dX4_learn_20 : decode cX4_learn 20 = .ok (.invokevirtual 81, 3) := by decide +kernel
theorem dX4_learn_23 : decode cX4_learn 23 = .ok (.if_icmp .ne 6, 3) := by decide +kernel
theorem dX4_learn_26 : decode cX4_learn 26 = .ok (.bipush (-5), 2) := by decide +kernel
theorem dX4_learn_28 : decode cX4_learn 28 = .ok (.ireturn, 1) := by decide +kernel
theorem dX4_learn_29 : decode cX4_learn 29 = .ok (.aload_n 0, 1) := by decide +kernel
theorem dX4_learn_30 : decode cX4_learn 30 = .ok (.getfield 36, 3) := by decide +kernel
theorem dX4_learn_33 : decode cX4_learn 33 = .ok (.aload_n 0, 1) := by decide +kernel
theorem dX4_learn_34 : decode cX4_learn 34 = .ok (.getfield 12, 3) := by decide +kernel
theorem dX4_learn_37 : decode cX4_learn 37 = .ok (.invokevirtual 51, 3) := by decide +kernel
theorem dX4_learn_40 : decode cX4_learn 40 = .ok (.aload_n 0, 1) := by decide +kernel
theorem dX4_learn_41 : decode cX4_learn 41 = .ok (.getfield 12, 3) := by decide +kernel
theorem dX4_learn_44 : decode cX4_learn 44 = .ok (.iconst 1, 1) := by decide +kernel
theorem dX4_learn_45 : decode cX4_learn 45 = .ok (.iload_n 1, 1) := by decide +kernel
theorem dX4_learn_46 : decode cX4_learn 46 = .ok (.invokevirtual 85, 3) := by decide +kernel
theorem dX4_learn_49 : decode cX4_learn 49 = .ok (.iload_n 1, 1) := by decide +kernel
theorem dX4_learn_50 : decode cX4_learn 50 = .ok (.ireturn, 1) := by decide +kernel
set_option maxRecDepth 20000 in
theorem ggX4_undo_X0_takeBack : GoodIn wsX4_undo wsX0_takeBack := goodIn_r _ [7, 8, 9, 10, 11, 12, 13, 14, 15, 16, 17, 18, 19, 20, 21, 22, 23, 33, 34, 35, 36, 37, 38, 39, 40, 41] (by decide +kernel) (by decide +kernel)
set_option maxRecDepth 20000 in
theorem gX4_undo_X0_takeBack : GoodIn wsX4_undo (wsV RX4 112 RX0 yX0_takeBack wsX0_takeBack) := goodIn_app (goodIn_of _ (by decide +kernel)) ggX4_undo_X0_takeBack
set_option maxRecDepth 20000 in
theorem ggX4_undo_X0_size : GoodIn wsX4_undo wsX0_size := goodIn_r _ [27, 8, 33, 34, 35, 36] (by decide +kernel) (by decide +kernel)
set_option maxRecDepth 20000 in
theorem gX4_undo_X0_size : GoodIn wsX4_undo (wsV RX4 115 RX0 yX0_size wsX0_size) := goodIn_app (goodIn_of _ (by decide +kernel)) ggX4_undo_X0_size
theorem dX4_undo_0 : decode cX4_undo 0 = .ok (.aload_n 0, 1) := by decide +kernel
theorem dX4_undo_1 : decode cX4_undo 1 = .ok (.getfield 36, 3) := by decide +kernel
theorem dX4_undo_4 : decode cX4_undo 4 = .ok (.aload_n 0, 1) := by decide +kernel
theorem dX4_undo_5 : decode cX4_undo 5 = .ok (.getfield 12, 3) := by decide +kernel
theorem dX4_undo_8 : decode cX4_undo 8 = .ok (.invokevirtual 112, 3) := by decide +kernel
theorem dX4_undo_11 : decode cX4_undo 11 = .ok (.ifCond .eq 13, 3) := by decide +kernel
theorem dX4_undo_14 : decode cX4_undo 14 = .ok (.aload_n 0, 1) := by decide +kernel
theorem dX4_undo_15 : decode cX4_undo 15 = .ok (.getfield 36, 3) := by decide +kernel
theorem dX4_undo_18 : decode cX4_undo 18 = .ok (.invokevirtual 115, 3) := by decide +kernel
theorem dX4_undo_21 : decode cX4_undo 21 = .ok (.goto 5, 3) := by decide +kernel
theorem dX4_undo_24 : decode cX4_undo 24 = .ok (.bipush (-5), 2) := by decide +kernel
theorem dX4_undo_26 : decode cX4_undo 26 = .ok (.ireturn, 1) := by decide +kernel
set_option maxRecDepth 20000 in
theorem ggX4_level_X2_levelAt : GoodIn wsX4_level wsX2_levelAt := goodIn_r _ [6, 7, 8, 14, 15, 16, 17, 18] (by decide +kernel) (by decide +kernel)
set_option maxRecDepth 20000 in
theorem gX4_level_X2_levelAt : GoodIn wsX4_level (wsV RX4 128 RX2 yX2_levelAt wsX2_levelAt) := goodIn_app (goodIn_of _ (by decide +kernel)) ggX4_level_X2_levelAt
theorem dX4_level_0 : decode cX4_level 0 = .ok (.iload_n 1, 1) := by decide +kernel
theorem dX4_level_1 : decode cX4_level 1 = .ok (.ifCond .ge 8, 3) := by decide +kernel
theorem dX4_level_4 : decode cX4_level 4 = .ok (.bipush (-2), 2) := by decide +kernel
theorem dX4_level_6 : decode cX4_level 6 = .ok (.goto 11, 3) := by decide +kernel
theorem dX4_level_9 : decode cX4_level 9 = .ok (.aload_n 0, 1) := by decide +kernel
theorem dX4_level_10 : decode cX4_level 10 = .ok (.getfield 12, 3) := by decide +kernel
theorem dX4_level_13 : decode cX4_level 13 = .ok (.iload_n 1, 1) := by decide +kernel
theorem dX4_level_14 : decode cX4_level 14 = .ok (.invokevirtual 128, 3) := by decide +kernel
theorem dX4_level_17 : decode cX4_level 17 = .ok (.ireturn, 1) := by decide +kernel
set_option maxRecDepth 20000 in
theorem ggX4_sent_X2_wordOfRank : GoodIn wsX4_sent wsX2_wordOfRank := goodIn_r _ [6, 7, 8, 14, 15, 16, 17, 18] (by decide +kernel) (by decide +kernel)
set_option maxRecDepth 20000 in
theorem gX4_sent_X2_wordOfRank : GoodIn wsX4_sent (wsV RX4 134 RX2 yX2_wordOfRank wsX2_wordOfRank) := goodIn_app (goodIn_of _ (by decide +kernel)) ggX4_sent_X2_wordOfRank
theorem dX4_sent_0 : decode cX4_sent 0 = .ok (.iload_n 1, 1) := by decide +kernel
theorem dX4_sent_1 : decode cX4_sent 1 = .ok (.ifCond .ge 8, 3) := by decide +kernel
theorem dX4_sent_4 : decode cX4_sent 4 = .ok (.bipush (-2), 2) := by decide +kernel
theorem dX4_sent_6 : decode cX4_sent 6 = .ok (.goto 11, 3) := by decide +kernel
theorem dX4_sent_9 : decode cX4_sent 9 = .ok (.aload_n 0, 1) := by decide +kernel
theorem dX4_sent_10 : decode cX4_sent 10 = .ok (.getfield 12, 3) := by decide +kernel
theorem dX4_sent_13 : decode cX4_sent 13 = .ok (.iload_n 1, 1) := by decide +kernel
theorem dX4_sent_14 : decode cX4_sent 14 = .ok (.invokevirtual 134, 3) := by decide +kernel
theorem dX4_sent_17 : decode cX4_sent 17 = .ok (.ireturn, 1) := by decide +kernel
set_option maxRecDepth 20000 in
theorem ggX4_received_X2_setting : GoodIn wsX4_received wsX2_setting := goodIn_r _ [7, 8, 89, 90, 91, 92, 93] (by decide +kernel) (by decide +kernel)
set_option maxRecDepth 20000 in
theorem gX4_received_X2_setting : GoodIn wsX4_received (wsV RX4 81 RX2 yX2_setting wsX2_setting) := goodIn_app (goodIn_of _ (by decide +kernel)) ggX4_received_X2_setting
set_option maxRecDepth 20000 in
theorem ggX4_received_X1_receive : GoodIn wsX4_received wsX1_receive := goodIn_r _ [13, 14, 15, 16, 17, 18, 6, 19, 20, 21, 22, 23, 24, 25, 26, 27, 28, 29, 30, 31, 32, 33, 34, 35, 36, 37, 38, 39, 40, 41, 42, 43, 44, 12, 45, 46, 47, 48, 49, 50, 51, 52, 53, 54, 55, 56, 57, 58, 4, 5, 7, 8, 59, 60, 61, 62, 63, 64, 65, 66, 67, 68, 69, 70, 71, 72, 73, 74, 75, 76, 77, 78, 79, 94, 95, 96, 97, 89, 90, 91, 92, 93] (by decide +kernel) (by decide +kernel)
set_option maxRecDepth 20000 in
theorem gX4_received_X1_receive : GoodIn wsX4_received (wsV RX4 137 RX1 yX1_receive wsX1_receive) := goodIn_app (goodIn_of _ (by decide +kernel)) ggX4_received_X1_receive
set_option maxRecDepth 20000 in
theorem ggX4_received_X1_note : GoodIn wsX4_received wsX1_note := goodIn_r _ [83, 14, 79, 94, 95, 96, 97] (by decide +kernel) (by decide +kernel)
set_option maxRecDepth 20000 in
theorem gX4_received_X1_note : GoodIn wsX4_received (wsV RX4 141 RX1 yX1_note wsX1_note) := goodIn_app (goodIn_of _ (by decide +kernel)) ggX4_received_X1_note
theorem dX4_received_0 : decode cX4_received 0 = .ok (.iload_n 1, 1) := by decide +kernel
theorem dX4_received_1 : decode cX4_received 1 = .ok (.ifCond .lt 12, 3) := by decide +kernel
theorem dX4_received_4 : decode cX4_received 4 = .ok (.iload_n 2, 1) := by decide +kernel
theorem dX4_received_5 : decode cX4_received 5 = .ok (.ifCond .lt 8, 3) := by decide +kernel
theorem dX4_received_8 : decode cX4_received 8 = .ok (.iload_n 2, 1) := by decide +kernel
theorem dX4_received_9 : decode cX4_received 9 = .ok (.iconst 5, 1) := by decide +kernel
theorem dX4_received_10 : decode cX4_received 10 = .ok (.if_icmp .lt 6, 3) := by decide +kernel
theorem dX4_received_13 : decode cX4_received 13 = .ok (.bipush (-2), 2) := by decide +kernel
theorem dX4_received_15 : decode cX4_received 15 = .ok (.ireturn, 1) := by decide +kernel
theorem dX4_received_16 : decode cX4_received 16 = .ok (.aload_n 0, 1) := by decide +kernel
theorem dX4_received_17 : decode cX4_received 17 = .ok (.getfield 22, 3) := by decide +kernel
theorem dX4_received_20 : decode cX4_received 20 = .ok (.aload_n 0, 1) := by decide +kernel
theorem dX4_received_21 : decode cX4_received 21 = .ok (.getfield 12, 3) := by decide +kernel
theorem dX4_received_24 : decode cX4_received 24 = .ok (.aload_n 0, 1) := by decide +kernel
theorem dX4_received_25 : decode cX4_received 25 = .ok (.getfield 12, 3) := by decide +kernel
theorem dX4_received_28 : decode cX4_received 28 = .ok (.iconst 1, 1) := by decide +kernel
theorem dX4_received_29 : decode cX4_received 29 = .ok (.invokevirtual 81, 3) := by decide +kernel
theorem dX4_received_32 : decode cX4_received 32 = .ok (.invokevirtual 137, 3) := by decide +kernel
theorem dX4_received_35 : decode cX4_received 35 = .ok (.aload_n 0, 1) := by decide +kernel
theorem dX4_received_36 : decode cX4_received 36 = .ok (.getfield 22, 3) := by decide +kernel
theorem dX4_received_39 : decode cX4_received 39 = .ok (.iload_n 1, 1) := by decide +kernel
theorem dX4_received_40 : decode cX4_received 40 = .ok (.iload_n 2, 1) := by decide +kernel
theorem dX4_received_41 : decode cX4_received 41 = .ok (.invokevirtual 141, 3) := by decide +kernel
theorem dX4_received_44 : decode cX4_received 44 = .ok (.ireturn, 1) := by decide +kernel
set_option maxRecDepth 20000 in
theorem ggX4_total_X2_setting : GoodIn wsX4_total wsX2_setting := goodIn_r _ [8, 9, 160, 161, 162, 163, 164] (by decide +kernel) (by decide +kernel)
set_option maxRecDepth 20000 in
theorem gX4_total_X2_setting : GoodIn wsX4_total (wsV RX4 81 RX2 yX2_setting wsX2_setting) := goodIn_app (goodIn_of _ (by decide +kernel)) ggX4_total_X2_setting
set_option maxRecDepth 20000 in
theorem ggX4_total_X2_end : GoodIn wsX4_total wsX2_end := goodIn_r _ [13, 14, 160, 161, 162, 163, 164] (by decide +kernel) (by decide +kernel)
set_option maxRecDepth 20000 in
theorem gX4_total_X2_end : GoodIn wsX4_total (wsV RX4 58 RX2 yX2_end wsX2_end) := goodIn_app (goodIn_of _ (by decide +kernel)) ggX4_total_X2_end
set_option maxRecDepth 20000 in
theorem ggX4_total_X2_wordCount : GoodIn wsX4_total wsX2_wordCount := goodIn_r _ [18, 19, 160, 161, 162, 163, 164] (by decide +kernel) (by decide +kernel)
set_option maxRecDepth 20000 in
theorem gX4_total_X2_wordCount : GoodIn wsX4_total (wsV RX4 144 RX2 yX2_wordCount wsX2_wordCount) := goodIn_app (goodIn_of _ (by decide +kernel)) ggX4_total_X2_wordCount
set_option maxRecDepth 20000 in
theorem ggX4_total_X2_countFalls : GoodIn wsX4_total wsX2_countFalls := goodIn_r _ [23, 24, 25, 26, 7, 27, 28, 29, 30, 31, 32, 33, 34, 35, 36, 160, 161, 162, 163, 164] (by decide +kernel) (by decide +kernel)
set_option maxRecDepth 20000 in
theorem gX4_total_X2_countFalls : GoodIn wsX4_total (wsV RX4 147 RX2 yX2_countFalls wsX2_countFalls) := goodIn_app (goodIn_of _ (by decide +kernel)) ggX4_total_X2_countFalls
set_option maxRecDepth 20000 in
theorem ggX4_total_X2_countLowTicks : GoodIn wsX4_total wsX2_countLowTicks := goodIn_r _ [40, 28, 29, 30, 31, 32, 33, 34, 35, 36, 160, 161, 162, 163, 164] (by decide +kernel) (by decide +kernel)
set_option maxRecDepth 20000 in
theorem gX4_total_X2_countLowTicks : GoodIn wsX4_total (wsV RX4 150 RX2 yX2_countLowTicks wsX2_countLowTicks) := goodIn_app (goodIn_of _ (by decide +kernel)) ggX4_total_X2_countLowTicks
set_option maxRecDepth 20000 in
theorem ggX4_total_X2_learnedLength : GoodIn wsX4_total wsX2_learnedLength := goodIn_r _ [44, 45, 46, 47, 7, 48, 14, 49, 50, 51, 52, 53, 54, 55, 56, 29, 24, 25, 26, 27, 28, 30, 31, 32, 33, 34, 35, 36, 160, 161, 162, 163, 164] (by decide +kernel) (by decide +kernel)
set_option maxRecDepth 20000 in
theorem gX4_total_X2_learnedLength : GoodIn wsX4_total (wsV RX4 89 RX2 yX2_learnedLength wsX2_learnedLength) := goodIn_app (goodIn_of _ (by decide +kernel)) ggX4_total_X2_learnedLength
set_option maxRecDepth 20000 in
theorem ggX4_total_X0_size : GoodIn wsX4_total wsX0_size := goodIn_r _ [61, 62, 165, 166, 167, 168] (by decide +kernel) (by decide +kernel)
set_option maxRecDepth 20000 in
theorem gX4_total_X0_size : GoodIn wsX4_total (wsV RX4 115 RX0 yX0_size wsX0_size) := goodIn_app (goodIn_of _ (by decide +kernel)) ggX4_total_X0_size
set_option maxRecDepth 20000 in
theorem ggX4_total_X3_length : GoodIn wsX4_total wsX3_length := goodIn_r _ [67, 68, 169, 170, 171, 172, 173] (by decide +kernel) (by decide +kernel)
set_option maxRecDepth 20000 in
theorem gX4_total_X3_length : GoodIn wsX4_total (wsV RX4 96 RX3 yX3_length wsX3_length) := goodIn_app (goodIn_of _ (by decide +kernel)) ggX4_total_X3_length
set_option maxRecDepth 20000 in
theorem ggX4_total_X4_totalReceived : GoodIn wsX4_total wsX4_totalReceived := goodIn_r _ [73, 74, 1, 4, 5, 6, 7, 8, 9, 75, 76, 77, 78, 79, 80, 81, 82, 50, 51, 52, 53, 54, 55, 56, 29, 14, 24, 25, 26, 27, 28, 30, 31, 32, 33, 34, 35, 36, 83, 11, 12, 13, 84, 85, 86, 87, 88, 89, 90, 91, 92, 93, 94, 95, 96, 97, 98, 99, 100, 101, 102, 103, 104, 105, 106, 107, 72, 108, 109, 110, 111, 112, 113, 114, 115, 116, 117, 118, 119, 120, 121, 122, 123, 124, 125, 126, 127, 128, 129, 130, 131, 132, 133, 134, 135, 136, 137, 138, 139, 140, 141, 142, 143, 144, 145, 16, 17, 18, 19, 146, 147, 148, 149, 150, 151, 152, 153, 154, 155, 156, 157, 158, 159, 160, 161, 162, 163, 164, 174, 175, 176, 177] (by decide +kernel) (by decide +kernel)
set_option maxRecDepth 20000 in
theorem gX4_total_X4_totalReceived : GoodIn wsX4_total (wsV RX4 153 RX4 yX4_totalReceived wsX4_totalReceived) := goodIn_app (goodIn_of _ (by decide +kernel)) ggX4_total_X4_totalReceived
theorem dX4_total_0 : decode cX4_total 0 = .ok (.iload_n 1, 1) := by decide +kernel
theorem dX4_total_1 : decode cX4_total 1 = .ok (.ifCond .lt 9, 3) := by decide +kernel
theorem dX4_total_4 : decode cX4_total 4 = .ok (.iload_n 1, 1) := by decide +kernel
theorem dX4_total_5 : decode cX4_total 5 = .ok (.bipush 19, 2) := by decide +kernel
theorem dX4_total_7 : decode cX4_total 7 = .ok (.if_icmp .le 6, 3) := by decide +kernel
theorem dX4_total_10 : decode cX4_total 10 = .ok (.bipush (-2), 2) := by decide +kernel
theorem dX4_total_12 : decode cX4_total 12 = .ok (.ireturn, 1) := by decide +kernel
theorem dX4_total_13 : decode cX4_total 13 = .ok (.iload_n 1, 1) := by decide +kernel
theorem dX4_total_14 : decode cX4_total 14 = .ok (.iconst 5, 1) := by decide +kernel
theorem dX4_total_15 : decode cX4_total 15 = .ok (.if_icmp .ge 12, 3) := by decide +kernel
theorem dX4_total_18 : decode cX4_total 18 = .ok (.aload_n 0, 1) := by decide +kernel
theorem dX4_total_19 : decode cX4_total 19 = .ok (.getfield 12, 3) := by decide +kernel
theorem dX4_total_22 : decode cX4_total 22 = .ok (.iload_n 1, 1) := by decide +kernel
theorem dX4_total_23 : decode cX4_total 23 = .ok (.invokevirtual 81, 3) := by decide +kernel
theorem dX4_total_26 : decode cX4_total 26 = .ok (.ireturn, 1) := by decide +kernel
theorem dX4_total_27 : decode cX4_total 27 = .ok (.iload_n 1, 1) := by decide +kernel
theorem dX4_total_28 : decode cX4_total 28 = .ok (.tableswitch 132 5 19 #[76, 84, 132, 132, 132, 132, 132, 132, 132, 132, 92, 100, 108, 116, 124], 76) := by decide +kernel
theorem dX4_total_104 : decode cX4_total 104 = .ok (.aload_n 0, 1) := by decide +kernel
theorem dX4_total_105 : decode cX4_total 105 = .ok (.getfield 12, 3) := by decide +kernel
theorem dX4_total_108 : decode cX4_total 108 = .ok (.invokevirtual 58, 3) := by decide +kernel
theorem dX4_total_111 : decode cX4_total 111 = .ok (.ireturn, 1) := by decide +kernel
theorem dX4_total_112 : decode cX4_total 112 = .ok (.aload_n 0, 1) := by decide +kernel
theorem dX4_total_113 : decode cX4_total 113 = .ok (.getfield 12, 3) := by decide +kernel
theorem dX4_total_116 : decode cX4_total 116 = .ok (.invokevirtual 144, 3) := by decide +kernel
theorem dX4_total_119 : decode cX4_total 119 = .ok (.ireturn, 1) := by decide +kernel
theorem dX4_total_120 : decode cX4_total 120 = .ok (.aload_n 0, 1) := by decide +kernel
theorem dX4_total_121 : decode cX4_total 121 = .ok (.getfield 12, 3) := by decide +kernel
theorem dX4_total_124 : decode cX4_total 124 = .ok (.invokevirtual 147, 3) := by decide +kernel
theorem dX4_total_127 : decode cX4_total 127 = .ok (.ireturn, 1) := by decide +kernel
theorem dX4_total_128 : decode cX4_total 128 = .ok (.aload_n 0, 1) := by decide +kernel
theorem dX4_total_129 : decode cX4_total 129 = .ok (.getfield 12, 3) := by decide +kernel
theorem dX4_total_132 : decode cX4_total 132 = .ok (.invokevirtual 150, 3) := by decide +kernel
theorem dX4_total_135 : decode cX4_total 135 = .ok (.ireturn, 1) := by decide +kernel
theorem dX4_total_136 : decode cX4_total 136 = .ok (.aload_n 0, 1) := by decide +kernel
theorem dX4_total_137 : decode cX4_total 137 = .ok (.getfield 12, 3) := by decide +kernel
theorem dX4_total_140 : decode cX4_total 140 = .ok (.invokevirtual 89, 3) := by decide +kernel
theorem dX4_total_143 : decode cX4_total 143 = .ok (.ireturn, 1) := by decide +kernel
theorem dX4_total_144 : decode cX4_total 144 = .ok (.aload_n 0, 1) := by decide +kernel
theorem dX4_total_145 : decode cX4_total 145 = .ok (.getfield 36, 3) := by decide +kernel
theorem dX4_total_148 : decode cX4_total 148 = .ok (.invokevirtual 115, 3) := by decide +kernel
theorem dX4_total_151 : decode cX4_total 151 = .ok (.ireturn, 1) := by decide +kernel
theorem dX4_total_152 : decode cX4_total 152 = .ok (.aload_n 0, 1) := by decide +kernel
theorem dX4_total_153 : decode cX4_total 153 = .ok (.getfield 29, 3) := by decide +kernel
theorem dX4_total_156 : decode cX4_total 156 = .ok (.invokevirtual 96, 3) := by decide +kernel
theorem dX4_total_159 : decode cX4_total 159 = .ok (.ireturn, 1) := by decide +kernel
theorem dX4_total_160 : decode cX4_total 160 = .ok (.aload_n 0, 1) := by decide +kernel
theorem dX4_total_161 : decode cX4_total 161 = .ok (.iload_n 1, 1) := by decide +kernel
theorem dX4_total_162 : decode cX4_total 162 = .ok (.invokevirtual 153, 3) := by decide +kernel
theorem dX4_total_165 : decode cX4_total 165 = .ok (.ireturn, 1) := by decide +kernel
set_option maxRecDepth 20000 in
theorem ggX4_ifLength_X1_receive : GoodIn wsX4_ifLength wsX1_receive := goodIn_r _ [7, 8, 9, 10, 11, 12, 13, 14, 15, 16, 17, 18, 19, 20, 21, 22, 23, 24, 25, 26, 27, 28, 29, 30, 31, 32, 33, 34, 35, 36, 37, 38, 39, 6, 40, 41, 42, 43, 44, 45, 46, 47, 48, 49, 50, 51, 52, 53, 54, 55, 56, 57, 58, 59, 60, 61, 62, 63, 64, 65, 66, 67, 68, 69, 70, 71, 72, 73, 74, 75, 76, 77, 78, 118, 119, 120, 121, 122, 123, 124, 125, 126] (by decide +kernel) (by decide +kernel)
set_option maxRecDepth 20000 in
theorem gX4_ifLength_X1_receive : GoodIn wsX4_ifLength (wsV RX4 137 RX1 yX1_receive wsX1_receive) := goodIn_app (goodIn_of _ (by decide +kernel)) ggX4_ifLength_X1_receive
set_option maxRecDepth 20000 in
theorem ggX4_ifLength_X1_count : GoodIn wsX4_ifLength wsX1_count := goodIn_r _ [82, 8, 118, 119, 120, 121] (by decide +kernel) (by decide +kernel)
set_option maxRecDepth 20000 in
theorem gX4_ifLength_X1_count : GoodIn wsX4_ifLength (wsV RX4 156 RX1 yX1_count wsX1_count) := goodIn_app (goodIn_of _ (by decide +kernel)) ggX4_ifLength_X1_count
set_option maxRecDepth 20000 in
theorem ggX4_ifLength_X1_countKind : GoodIn wsX4_ifLength wsX1_countKind := goodIn_r _ [86, 8, 87, 88, 89, 6, 90, 78, 118, 119, 120, 121] (by decide +kernel) (by decide +kernel)
set_option maxRecDepth 20000 in
theorem gX4_ifLength_X1_countKind : GoodIn wsX4_ifLength (wsV RX4 159 RX1 yX1_countKind wsX1_countKind) := goodIn_app (goodIn_of _ (by decide +kernel)) ggX4_ifLength_X1_countKind
set_option maxRecDepth 20000 in
theorem ggX4_ifLength_X1_countDoubtful : GoodIn wsX4_ifLength wsX1_countDoubtful := goodIn_r _ [94, 8, 87, 88, 89, 6, 90, 78, 118, 119, 120, 121] (by decide +kernel) (by decide +kernel)
set_option maxRecDepth 20000 in
theorem gX4_ifLength_X1_countDoubtful : GoodIn wsX4_ifLength (wsV RX4 162 RX1 yX1_countDoubtful wsX1_countDoubtful) := goodIn_app (goodIn_of _ (by decide +kernel)) ggX4_ifLength_X1_countDoubtful
set_option maxRecDepth 20000 in
theorem ggX4_ifLength_X1_isAllWell : GoodIn wsX4_ifLength wsX1_isAllWell := goodIn_r _ [98, 8, 99, 100, 101, 13, 102, 103, 104, 105, 106, 107, 108, 109, 110, 111, 6, 112, 87, 88, 89, 90, 78, 118, 119, 120, 121, 122, 123, 124, 125, 126] (by decide +kernel) (by decide +kernel)
set_option maxRecDepth 20000 in
theorem gX4_ifLength_X1_isAllWell : GoodIn wsX4_ifLength (wsV RX4 165 RX1 yX1_isAllWell wsX1_isAllWell) := goodIn_app (goodIn_of _ (by decide +kernel)) ggX4_ifLength_X1_isAllWell
theorem dX4_ifLength_0 : decode cX4_ifLength 0 = .ok (.iload_n 1, 1) := by decide +kernel
theorem dX4_ifLength_1 : decode cX4_ifLength 1 = .ok (.iconst 4, 1) := by decide +kernel
theorem dX4_ifLength_2 : decode cX4_ifLength 2 = .ok (.if_icmp .lt 18, 3) := by decide +kernel
theorem dX4_ifLength_5 : decode cX4_ifLength 5 = .ok (.iload_n 1, 1) := by decide +kernel
theorem dX4_ifLength_6 : decode cX4_ifLength 6 = .ok (.bipush 40, 2) := by decide +kernel
theorem dX4_ifLength_8 : decode cX4_ifLength 8 = .ok (.if_icmp .gt 12, 3) := by decide +kernel
theorem dX4_ifLength_11 : decode cX4_ifLength 11 = .ok (.iload_n 2, 1) := by decide +kernel
theorem dX4_ifLength_12 : decode cX4_ifLength 12 = .ok (.ifCond .lt 8, 3) := by decide +kernel
theorem dX4_ifLength_15 : decode cX4_ifLength 15 = .ok (.iload_n 2, 1) := by decide +kernel
theorem dX4_ifLength_16 : decode cX4_ifLength 16 = .ok (.iconst 3, 1) := by decide +kernel
theorem dX4_ifLength_17 : decode cX4_ifLength 17 = .ok (.if_icmp .le 6, 3) := by decide +kernel
theorem dX4_ifLength_20 : decode cX4_ifLength 20 = .ok (.bipush (-2), 2) := by decide +kernel
theorem dX4_ifLength_22 : decode cX4_ifLength 22 = .ok (.ireturn, 1) := by decide +kernel
theorem dX4_ifLength_23 : decode cX4_ifLength 23 = .ok (.aload_n 0, 1) := by decide +kernel
theorem dX4_ifLength_24 : decode cX4_ifLength 24 = .ok (.getfield 22, 3) := by decide +kernel
theorem dX4_ifLength_27 : decode cX4_ifLength 27 = .ok (.aload_n 0, 1) := by decide +kernel
theorem dX4_ifLength_28 : decode cX4_ifLength 28 = .ok (.getfield 12, 3) := by decide +kernel
theorem dX4_ifLength_31 : decode cX4_ifLength 31 = .ok (.iload_n 1, 1) := by decide +kernel
theorem dX4_ifLength_32 : decode cX4_ifLength 32 = .ok (.invokevirtual 137, 3) := by decide +kernel
theorem dX4_ifLength_35 : decode cX4_ifLength 35 = .ok (.iload_n 2, 1) := by decide +kernel
theorem dX4_ifLength_36 : decode cX4_ifLength 36 = .ok (.tableswitch 53 0 2 #[28, 36, 45], 28) := by decide +kernel
theorem dX4_ifLength_64 : decode cX4_ifLength 64 = .ok (.aload_n 0, 1) := by decide +kernel
theorem dX4_ifLength_65 : decode cX4_ifLength 65 = .ok (.getfield 22, 3) := by decide +kernel
theorem dX4_ifLength_68 : decode cX4_ifLength 68 = .ok (.invokevirtual 156, 3) := by decide +kernel
theorem dX4_ifLength_71 : decode cX4_ifLength 71 = .ok (.ireturn, 1) := by decide +kernel
theorem dX4_ifLength_72 : decode cX4_ifLength 72 = .ok (.aload_n 0, 1) := by decide +kernel
theorem dX4_ifLength_73 : decode cX4_ifLength 73 = .ok (.getfield 22, 3) := by decide +kernel
theorem dX4_ifLength_76 : decode cX4_ifLength 76 = .ok (.iconst 0, 1) := by decide +kernel
theorem dX4_ifLength_77 : decode cX4_ifLength 77 = .ok (.invokevirtual 159, 3) := by decide +kernel
theorem dX4_ifLength_80 : decode cX4_ifLength 80 = .ok (.ireturn, 1) := by decide +kernel
theorem dX4_ifLength_81 : decode cX4_ifLength 81 = .ok (.aload_n 0, 1) := by decide +kernel
theorem dX4_ifLength_82 : decode cX4_ifLength 82 = .ok (.getfield 22, 3) := by decide +kernel
theorem dX4_ifLength_85 : decode cX4_ifLength 85 = .ok (.invokevirtual 162, 3) := by decide +kernel
theorem dX4_ifLength_88 : decode cX4_ifLength 88 = .ok (.ireturn, 1) := by decide +kernel
theorem dX4_ifLength_89 : decode cX4_ifLength 89 = .ok (.aload_n 0, 1) := by decide +kernel
theorem dX4_ifLength_90 : decode cX4_ifLength 90 = .ok (.getfield 22, 3) := by decide +kernel
theorem dX4_ifLength_93 : decode cX4_ifLength 93 = .ok (.aload_n 0, 1) := by decide +kernel
theorem dX4_ifLength_94 : decode cX4_ifLength 94 = .ok (.getfield 12, 3) := by decide +kernel
theorem dX4_ifLength_97 : decode cX4_ifLength 97 = .ok (.invokevirtual 165, 3) := by decide +kernel
theorem dX4_ifLength_100 : decode cX4_ifLength 100 = .ok (.ifCond .eq 7, 3) := by decide +kernel
theorem dX4_ifLength_103 : decode cX4_ifLength 103 = .ok (.iconst 1, 1) := by decide +kernel
theorem dX4_ifLength_104 : decode cX4_ifLength 104 = .ok (.goto 4, 3) := by decide +kernel
theorem dX4_ifLength_107 : decode cX4_ifLength 107 = .ok (.iconst 0, 1) := by decide +kernel
theorem dX4_ifLength_108 : decode cX4_ifLength 108 = .ok (.ireturn, 1) := by decide +kernel
theorem dX4_isWord_0 : decode cX4_isWord 0 = .ok (.iload_n 0, 1) := by decide +kernel
theorem dX4_isWord_1 : decode cX4_isWord 1 = .ok (.ifCond .lt 14, 3) := by decide +kernel
theorem dX4_isWord_4 : decode cX4_isWord 4 = .ok (.iload_n 0, 1) := by decide +kernel
theorem dX4_isWord_5 : decode cX4_isWord 5 = .ok (.sipush 255, 3) := by decide +kernel
theorem dX4_isWord_8 : decode cX4_isWord 8 = .ok (.if_icmp .gt 7, 3) := by decide +kernel
theorem dX4_isWord_11 : decode cX4_isWord 11 = .ok (.iconst 1, 1) := by decide +kernel
theorem dX4_isWord_12 : decode cX4_isWord 12 = .ok (.goto 4, 3) := by decide +kernel
theorem dX4_isWord_15 : decode cX4_isWord 15 = .ok (.iconst 0, 1) := by decide +kernel
theorem dX4_isWord_16 : decode cX4_isWord 16 = .ok (.ireturn, 1) := by decide +kernel
theorem dX4_isDisturbance_0 : decode cX4_isDisturbance 0 = .ok (.iload_n 0, 1) := by decide +kernel
theorem dX4_isDisturbance_1 : decode cX4_isDisturbance 1 = .ok (.iconst 1, 1) := by decide +kernel
theorem dX4_isDisturbance_2 : decode cX4_isDisturbance 2 = .ok (.if_icmp .lt 13, 3) := by decide +kernel
theorem dX4_isDisturbance_5 : decode cX4_isDisturbance 5 = .ok (.iload_n 0, 1) := by decide +kernel
theorem dX4_isDisturbance_6 : decode cX4_isDisturbance 6 = .ok (.bipush 40, 2) := by decide +kernel
theorem dX4_isDisturbance_8 : decode cX4_isDisturbance 8 = .ok (.if_icmp .gt 7, 3) := by decide +kernel
theorem dX4_isDisturbance_11 : decode cX4_isDisturbance 11 = .ok (.iconst 1, 1) := by decide +kernel
theorem dX4_isDisturbance_12 : decode cX4_isDisturbance 12 = .ok (.goto 4, 3) := by decide +kernel
theorem dX4_isDisturbance_15 : decode cX4_isDisturbance 15 = .ok (.iconst 0, 1) := by decide +kernel
theorem dX4_isDisturbance_16 : decode cX4_isDisturbance 16 = .ok (.ireturn, 1) := by decide +kernel
set_option maxRecDepth 20000 in
theorem ggX4_parityOf_J6_bitCount_0f7a4 : GoodIn wsX4_parityOf wsJ6_bitCount_0f7a4 := goodIn_r _ [4, 5, 6, 7] (by decide +kernel) (by decide +kernel)
set_option maxRecDepth 20000 in
theorem gX4_parityOf_J6_bitCount_0f7a4 : GoodIn wsX4_parityOf (va_wsS RX4 175 yJ6_bitCount_0f7a4 wsJ6_bitCount_0f7a4) := goodIn_app (goodIn_of _ (by decide +kernel)) ggX4_parityOf_J6_bitCount_0f7a4
theorem dX4_parityOf_0 : decode cX4_parityOf 0 = .ok (.iload_n 0, 1) := by decide +kernel
theorem dX4_parityOf_1 : decode cX4_parityOf 1 = .ok (.invokestatic 175, 3) := by decide +kernel
theorem dX4_parityOf_4 : decode cX4_parityOf 4 = .ok (.iconst 1, 1) := by decide +kernel
theorem dX4_parityOf_5 : decode cX4_parityOf 5 = .ok (.iand, 1) := by decide +kernel
theorem dX4_parityOf_6 : decode cX4_parityOf 6 = .ok (.istore_n 2, 1) := by decide +kernel
theorem dX4_parityOf_7 : decode cX4_parityOf 7 = .ok (.iload_n 1, 1) := by decide +kernel
theorem dX4_parityOf_8 : decode cX4_parityOf 8 = .ok (.iconst 1, 1) := by decide +kernel
theorem dX4_parityOf_9 : decode cX4_parityOf 9 = .ok (.if_icmp .ne 7, 3) := by decide +kernel
theorem dX4_parityOf_12 : decode cX4_parityOf 12 = .ok (.iload_n 2, 1) := by decide +kernel
theorem dX4_parityOf_13 : decode cX4_parityOf 13 = .ok (.goto 6, 3) := by decide +kernel
theorem dX4_parityOf_16 : decode cX4_parityOf 16 = .ok (.iconst 1, 1) := by decide +kernel
theorem dX4_parityOf_17 : decode cX4_parityOf 17 = .ok (.iload_n 2, 1) := by decide +kernel
theorem dX4_parityOf_18 : decode cX4_parityOf 18 = .ok (.isub, 1) := by decide +kernel
theorem dX4_parityOf_19 : decode cX4_parityOf 19 = .ok (.ireturn, 1) := by decide +kernel
set_option maxRecDepth 20000 in
theorem ggX4_sendStretch_X2_hasRoom : GoodIn wsX4_sendStretch wsX2_hasRoom := goodIn_r _ [7, 8, 55, 56, 57, 58, 59] (by decide +kernel) (by decide +kernel)
set_option maxRecDepth 20000 in
theorem gX4_sendStretch_X2_hasRoom : GoodIn wsX4_sendStretch (wsV RX4 48 RX2 yX2_hasRoom wsX2_hasRoom) := goodIn_app (goodIn_of _ (by decide +kernel)) ggX4_sendStretch_X2_hasRoom
set_option maxRecDepth 20000 in
theorem ggX4_sendStretch_X0_remember : GoodIn wsX4_sendStretch wsX0_remember := goodIn_r _ [13, 14, 15, 16, 17, 18, 12, 19, 20, 21, 22, 6, 23, 24, 25, 26, 27, 28, 29, 30, 8, 31, 60, 61, 62, 63, 55, 56, 57, 58, 59] (by decide +kernel) (by decide +kernel)
set_option maxRecDepth 20000 in
theorem gX4_sendStretch_X0_remember : GoodIn wsX4_sendStretch (wsV RX4 51 RX0 yX0_remember wsX0_remember) := goodIn_app (goodIn_of _ (by decide +kernel)) ggX4_sendStretch_X0_remember
set_option maxRecDepth 20000 in
theorem ggX4_sendStretch_X2_addStretch : GoodIn wsX4_sendStretch wsX2_addStretch := goodIn_r _ [35, 8, 36, 4, 5, 6, 7, 37, 38, 39, 40, 41, 42, 43, 44, 24, 45, 55, 56, 57, 58, 59] (by decide +kernel) (by decide +kernel)
set_option maxRecDepth 20000 in
theorem gX4_sendStretch_X2_addStretch : GoodIn wsX4_sendStretch (wsV RX4 180 RX2 yX2_addStretch wsX2_addStretch) := goodIn_app (goodIn_of _ (by decide +kernel)) ggX4_sendStretch_X2_addStretch
set_option maxRecDepth 20000 in
theorem ggX4_sendStretch_X2_end : GoodIn wsX4_sendStretch wsX2_end := goodIn_r _ [49, 8, 55, 56, 57, 58, 59] (by decide +kernel) (by decide +kernel)
set_option maxRecDepth 20000 in
theorem gX4_sendStretch_X2_end : GoodIn wsX4_sendStretch (wsV RX4 58 RX2 yX2_end wsX2_end) := goodIn_app (goodIn_of _ (by decide +kernel)) ggX4_sendStretch_X2_end
theorem dX4_sendStretch_0 : decode cX4_sendStretch 0 = .ok (.iload_n 2, 1) := by decide +kernel
theorem dX4_sendStretch_1 : decode cX4_sendStretch 1 = .ok (.iconst 1, 1) := by decide +kernel
theorem dX4_sendStretch_2 : decode cX4_sendStretch 2 = .ok (.if_icmp .lt 10, 3) := by decide +kernel
theorem dX4_sendStretch_5 : decode cX4_sendStretch 5 = .ok (.iload_n 2, 1) := by decide +kernel
theorem dX4_sendStretch_6 : decode cX4_sendStretch 6 = .ok (.sipush 500, 3) := by decide +kernel
theorem dX4_sendStretch_9 : decode cX4_sendStretch 9 = .ok (.if_icmp .le 6, 3) := by decide +kernel
theorem dX4_sendStretch_12 : decode cX4_sendStretch 12 = .ok (.bipush (-2), 2) := by decide +kernel
theorem dX4_sendStretch_14 : decode cX4_sendStretch 14 = .ok (.ireturn, 1) := by decide +kernel
theorem dX4_sendStretch_15 : decode cX4_sendStretch 15 = .ok (.aload_n 0, 1) := by decide +kernel
theorem dX4_sendStretch_16 : decode cX4_sendStretch 16 = .ok (.getfield 12, 3) := by decide +kernel
theorem dX4_sendStretch_19 : decode cX4_sendStretch 19 = .ok (.iload_n 2, 1) := by decide +kernel
theorem dX4_sendStretch_20 : decode cX4_sendStretch 20 = .ok (.invokevirtual 48, 3) := by decide +kernel
theorem dX4_sendStretch_23 : decode cX4_sendStretch 23 = .ok (.ifCond .ne 6, 3) := by decide +kernel
theorem dX4_sendStretch_26 : decode cX4_sendStretch 26 = .ok (.bipush (-3), 2) := by decide +kernel
theorem dX4_sendStretch_28 : decode cX4_sendStretch 28 = .ok (.ireturn, 1) := by decide +kernel
theorem dX4_sendStretch_29 : decode cX4_sendStretch 29 = .ok (.aload_n 0, 1) := by decide +kernel
theorem dX4_sendStretch_30 : decode cX4_sendStretch 30 = .ok (.getfield 36, 3) := by decide +kernel
theorem dX4_sendStretch_33 : decode cX4_sendStretch 33 = .ok (.aload_n 0, 1) := by decide +kernel
theorem dX4_sendStretch_34 : decode cX4_sendStretch 34 = .ok (.getfield 12, 3) := by decide +kernel
theorem dX4_sendStretch_37 : decode cX4_sendStretch 37 = .ok (.invokevirtual 51, 3) := by decide +kernel
theorem dX4_sendStretch_40 : decode cX4_sendStretch 40 = .ok (.aload_n 0, 1) := by decide +kernel
theorem dX4_sendStretch_41 : decode cX4_sendStretch 41 = .ok (.getfield 12, 3) := by decide +kernel
theorem dX4_sendStretch_44 : decode cX4_sendStretch 44 = .ok (.iload_n 1, 1) := by decide +kernel
theorem dX4_sendStretch_45 : decode cX4_sendStretch 45 = .ok (.iload_n 2, 1) := by decide +kernel
theorem dX4_sendStretch_46 : decode cX4_sendStretch 46 = .ok (.invokevirtual 180, 3) := by decide +kernel
theorem dX4_sendStretch_49 : decode cX4_sendStretch 49 = .ok (.pop, 1) := by decide +kernel
theorem dX4_sendStretch_50 : decode cX4_sendStretch 50 = .ok (.aload_n 0, 1) := by decide +kernel
theorem dX4_sendStretch_51 : decode cX4_sendStretch 51 = .ok (.getfield 12, 3) := by decide +kernel
theorem dX4_sendStretch_54 : decode cX4_sendStretch 54 = .ok (.invokevirtual 58, 3) := by decide +kernel
theorem dX4_sendStretch_57 : decode cX4_sendStretch 57 = .ok (.ireturn, 1) := by decide +kernel
set_option maxRecDepth 20000 in
theorem ggX4_totalReceived_X2_setting : GoodIn wsX4_totalReceived wsX2_setting := goodIn_r _ [7, 8, 123, 124, 125, 126, 127] (by decide +kernel) (by decide +kernel)
set_option maxRecDepth 20000 in
theorem gX4_totalReceived_X2_setting : GoodIn wsX4_totalReceived (wsV RX4 81 RX2 yX2_setting wsX2_setting) := goodIn_app (goodIn_of _ (by decide +kernel)) ggX4_totalReceived_X2_setting
set_option maxRecDepth 20000 in
theorem ggX4_totalReceived_X1_receive : GoodIn wsX4_totalReceived wsX1_receive := goodIn_r _ [13, 14, 15, 16, 17, 18, 6, 19, 20, 21, 22, 23, 24, 25, 26, 27, 28, 29, 30, 31, 32, 33, 34, 35, 36, 37, 38, 39, 40, 41, 42, 43, 44, 12, 45, 46, 47, 48, 49, 50, 51, 52, 53, 54, 55, 56, 57, 58, 4, 5, 7, 8, 59, 60, 61, 62, 63, 64, 65, 66, 67, 68, 69, 70, 71, 72, 73, 74, 75, 76, 77, 78, 79, 128, 129, 130, 131, 123, 124, 125, 126, 127] (by decide +kernel) (by decide +kernel)
set_option maxRecDepth 20000 in
theorem gX4_totalReceived_X1_receive : GoodIn wsX4_totalReceived (wsV RX4 137 RX1 yX1_receive wsX1_receive) := goodIn_app (goodIn_of _ (by decide +kernel)) ggX4_totalReceived_X1_receive
set_option maxRecDepth 20000 in
theorem ggX4_totalReceived_X1_count : GoodIn wsX4_totalReceived wsX1_count := goodIn_r _ [83, 14, 128, 129, 130, 131] (by decide +kernel) (by decide +kernel)
set_option maxRecDepth 20000 in
theorem gX4_totalReceived_X1_count : GoodIn wsX4_totalReceived (wsV RX4 156 RX1 yX1_count wsX1_count) := goodIn_app (goodIn_of _ (by decide +kernel)) ggX4_totalReceived_X1_count
set_option maxRecDepth 20000 in
theorem ggX4_totalReceived_X1_countKind : GoodIn wsX4_totalReceived wsX1_countKind := goodIn_r _ [87, 14, 88, 89, 90, 12, 91, 79, 128, 129, 130, 131] (by decide +kernel) (by decide +kernel)
set_option maxRecDepth 20000 in
theorem gX4_totalReceived_X1_countKind : GoodIn wsX4_totalReceived (wsV RX4 159 RX1 yX1_countKind wsX1_countKind) := goodIn_app (goodIn_of _ (by decide +kernel)) ggX4_totalReceived_X1_countKind
set_option maxRecDepth 20000 in
theorem ggX4_totalReceived_X1_falseStarts : GoodIn wsX4_totalReceived wsX1_falseStarts := goodIn_r _ [95, 15, 128, 129, 130, 131] (by decide +kernel) (by decide +kernel)
set_option maxRecDepth 20000 in
theorem gX4_totalReceived_X1_falseStarts : GoodIn wsX4_totalReceived (wsV RX4 184 RX1 yX1_falseStarts wsX1_falseStarts) := goodIn_app (goodIn_of _ (by decide +kernel)) ggX4_totalReceived_X1_falseStarts
set_option maxRecDepth 20000 in
theorem ggX4_totalReceived_X1_countDoubtful : GoodIn wsX4_totalReceived wsX1_countDoubtful := goodIn_r _ [99, 14, 88, 89, 90, 12, 91, 79, 128, 129, 130, 131] (by decide +kernel) (by decide +kernel)
set_option maxRecDepth 20000 in
theorem gX4_totalReceived_X1_countDoubtful : GoodIn wsX4_totalReceived (wsV RX4 162 RX1 yX1_countDoubtful wsX1_countDoubtful) := goodIn_app (goodIn_of _ (by decide +kernel)) ggX4_totalReceived_X1_countDoubtful
set_option maxRecDepth 20000 in
theorem ggX4_totalReceived_X1_isAllWell : GoodIn wsX4_totalReceived wsX1_isAllWell := goodIn_r _ [103, 14, 104, 105, 106, 6, 107, 108, 109, 110, 111, 112, 113, 114, 115, 116, 12, 117, 88, 89, 90, 91, 79, 128, 129, 130, 131, 123, 124, 125, 126, 127] (by decide +kernel) (by decide +kernel)
set_option maxRecDepth 20000 in
theorem gX4_totalReceived_X1_isAllWell : GoodIn wsX4_totalReceived (wsV RX4 165 RX1 yX1_isAllWell wsX1_isAllWell) := goodIn_app (goodIn_of _ (by decide +kernel)) ggX4_totalReceived_X1_isAllWell
theorem dX4_totalReceived_0 : decode cX4_totalReceived 0 = .ok (.aload_n 0, 1) := by decide +kernel
theorem dX4_totalReceived_1 : decode cX4_totalReceived 1 = .ok (.getfield 22, 3) := by decide +kernel
theorem dX4_totalReceived_4 : decode cX4_totalReceived 4 = .ok (.aload_n 0, 1) := by decide +kernel
theorem dX4_totalReceived_5 : decode cX4_totalReceived 5 = .ok (.getfield 12, 3) := by decide +kernel
theorem dX4_totalReceived_8 : decode cX4_totalReceived 8 = .ok (.aload_n 0, 1) := by decide +kernel
theorem dX4_totalReceived_9 : decode cX4_totalReceived 9 = .ok (.getfield 12, 3) := by decide +kernel
theorem dX4_totalReceived_12 : decode cX4_totalReceived 12 = .ok (.iconst 1, 1) := by decide +kernel
theorem dX4_totalReceived_13 : decode cX4_totalReceived 13 = .ok (.invokevirtual 81, 3) := by decide +kernel
theorem dX4_totalReceived_16 : decode cX4_totalReceived 16 = .ok (.invokevirtual 137, 3) := by decide +kernel
theorem dX4_totalReceived_19 : decode cX4_totalReceived 19 = .ok (.iload_n 1, 1) := by decide +kernel
theorem dX4_totalReceived_20 : decode cX4_totalReceived 20 = .ok (.tableswitch 104 7 13 #[44, 52, 61, 70, 79, 88, 96], 44) := by decide +kernel
theorem dX4_totalReceived_64 : decode cX4_totalReceived 64 = .ok (.aload_n 0, 1) := by decide +kernel
theorem dX4_totalReceived_65 : decode cX4_totalReceived 65 = .ok (.getfield 22, 3) := by decide +kernel
theorem dX4_totalReceived_68 : decode cX4_totalReceived 68 = .ok (.invokevirtual 156, 3) := by decide +kernel
theorem dX4_totalReceived_71 : decode cX4_totalReceived 71 = .ok (.ireturn, 1) := by decide +kernel
theorem dX4_totalReceived_72 : decode cX4_totalReceived 72 = .ok (.aload_n 0, 1) := by decide +kernel
theorem dX4_totalReceived_73 : decode cX4_totalReceived 73 = .ok (.getfield 22, 3) := by decide +kernel
theorem dX4_totalReceived_76 : decode cX4_totalReceived 76 = .ok (.iconst 0, 1) := by decide +kernel
theorem dX4_totalReceived_77 : decode cX4_totalReceived 77 = .ok (.invokevirtual 159, 3) := by decide +kernel
theorem dX4_totalReceived_80 : decode cX4_totalReceived 80 = .ok (.ireturn, 1) := by decide +kernel
theorem dX4_totalReceived_81 : decode cX4_totalReceived 81 = .ok (.aload_n 0, 1) := by decide +kernel
theorem dX4_totalReceived_82 : decode cX4_totalReceived 82 = .ok (.getfield 22, 3) := by decide +kernel
theorem dX4_totalReceived_85 : decode cX4_totalReceived 85 = .ok (.iconst 1, 1) := by decide +kernel
theorem dX4_totalReceived_86 : decode cX4_totalReceived 86 = .ok (.invokevirtual 159, 3) := by decide +kernel
theorem dX4_totalReceived_89 : decode cX4_totalReceived 89 = .ok (.ireturn, 1) := by decide +kernel
theorem dX4_totalReceived_90 : decode cX4_totalReceived 90 = .ok (.aload_n 0, 1) := by decide +kernel
theorem dX4_totalReceived_91 : decode cX4_totalReceived 91 = .ok (.getfield 22, 3) := by decide +kernel
theorem dX4_totalReceived_94 : decode cX4_totalReceived 94 = .ok (.iconst 2, 1) := by decide +kernel
theorem dX4_totalReceived_95 : decode cX4_totalReceived 95 = .ok (.invokevirtual 159, 3) := by decide +kernel
theorem dX4_totalReceived_98 : decode cX4_totalReceived 98 = .ok (.ireturn, 1) := by decide +kernel
theorem dX4_totalReceived_99 : decode cX4_totalReceived 99 = .ok (.aload_n 0, 1) := by decide +kernel
theorem dX4_totalReceived_100 : decode cX4_totalReceived 100 = .ok (.getfield 22, 3) := by decide +kernel
theorem dX4_totalReceived_103 : decode cX4_totalReceived 103 = .ok (.iconst 3, 1) := by decide +kernel
theorem dX4_totalReceived_104 : decode cX4_totalReceived 104 = .ok (.invokevirtual 159, 3) := by decide +kernel
theorem dX4_totalReceived_107 : decode cX4_totalReceived 107 = .ok (.ireturn, 1) := by decide +kernel
theorem dX4_totalReceived_108 : decode cX4_totalReceived 108 = .ok (.aload_n 0, 1) := by decide +kernel
theorem dX4_totalReceived_109 : decode cX4_totalReceived 109 = .ok (.getfield 22, 3) := by decide +kernel
theorem dX4_totalReceived_112 : decode cX4_totalReceived 112 = .ok (.invokevirtual 184, 3) := by decide +kernel
theorem dX4_totalReceived_115 : decode cX4_totalReceived 115 = .ok (.ireturn, 1) := by decide +kernel
theorem dX4_totalReceived_116 : decode cX4_totalReceived 116 = .ok (.aload_n 0, 1) := by decide +kernel
theorem dX4_totalReceived_117 : decode cX4_totalReceived 117 = .ok (.getfield 22, 3) := by decide +kernel
theorem dX4_totalReceived_120 : decode cX4_totalReceived 120 = .ok (.invokevirtual 162, 3) := by decide +kernel
theorem dX4_totalReceived_123 : decode cX4_totalReceived 123 = .ok (.ireturn, 1) := by decide +kernel
theorem dX4_totalReceived_124 : decode cX4_totalReceived 124 = .ok (.aload_n 0, 1) := by decide +kernel
theorem dX4_totalReceived_125 : decode cX4_totalReceived 125 = .ok (.getfield 22, 3) := by decide +kernel
theorem dX4_totalReceived_128 : decode cX4_totalReceived 128 = .ok (.aload_n 0, 1) := by decide +kernel
theorem dX4_totalReceived_129 : decode cX4_totalReceived 129 = .ok (.getfield 12, 3) := by decide +kernel
theorem dX4_totalReceived_132 : decode cX4_totalReceived 132 = .ok (.invokevirtual 165, 3) := by decide +kernel
theorem dX4_totalReceived_135 : decode cX4_totalReceived 135 = .ok (.ifCond .eq 7, 3) := by decide +kernel
theorem dX4_totalReceived_138 : decode cX4_totalReceived 138 = .ok (.iconst 1, 1) := by decide +kernel
theorem dX4_totalReceived_139 : decode cX4_totalReceived 139 = .ok (.goto 4, 3) := by decide +kernel
theorem dX4_totalReceived_142 : decode cX4_totalReceived 142 = .ok (.iconst 0, 1) := by decide +kernel
theorem dX4_totalReceived_143 : decode cX4_totalReceived 143 = .ok (.ireturn, 1) := by decide +kernel
theorem dJ6_bitCount_0f7a4_0 : decode cJ6_bitCount_0f7a4 0 = .ok (.iload_n 0, 1) := by decide +kernel
theorem dJ6_bitCount_0f7a4_1 : decode cJ6_bitCount_0f7a4 1 = .ok (.iload_n 0, 1) := by decide +kernel
theorem dJ6_bitCount_0f7a4_2 : decode cJ6_bitCount_0f7a4 2 = .ok (.iconst 1, 1) := by decide +kernel
theorem dJ6_bitCount_0f7a4_3 : decode cJ6_bitCount_0f7a4 3 = .ok (.iushr, 1) := by decide +kernel
theorem dJ6_bitCount_0f7a4_4 : decode cJ6_bitCount_0f7a4 4 = .ok (.ldc_w 265, 3) := by decide +kernel
theorem dJ6_bitCount_0f7a4_7 : decode cJ6_bitCount_0f7a4 7 = .ok (.iand, 1) := by decide +kernel
theorem dJ6_bitCount_0f7a4_8 : decode cJ6_bitCount_0f7a4 8 = .ok (.isub, 1) := by decide +kernel
theorem dJ6_bitCount_0f7a4_9 : decode cJ6_bitCount_0f7a4 9 = .ok (.istore_n 0, 1) := by decide +kernel
theorem dJ6_bitCount_0f7a4_10 : decode cJ6_bitCount_0f7a4 10 = .ok (.iload_n 0, 1) := by decide +kernel
theorem dJ6_bitCount_0f7a4_11 : decode cJ6_bitCount_0f7a4 11 = .ok (.ldc_w 266, 3) := by decide +kernel
theorem dJ6_bitCount_0f7a4_14 : decode cJ6_bitCount_0f7a4 14 = .ok (.iand, 1) := by decide +kernel
theorem dJ6_bitCount_0f7a4_15 : decode cJ6_bitCount_0f7a4 15 = .ok (.iload_n 0, 1) := by decide +kernel
theorem dJ6_bitCount_0f7a4_16 : decode cJ6_bitCount_0f7a4 16 = .ok (.iconst 2, 1) := by decide +kernel
theorem dJ6_bitCount_0f7a4_17 : decode cJ6_bitCount_0f7a4 17 = .ok (.iushr, 1) := by decide +kernel
theorem dJ6_bitCount_0f7a4_18 : decode cJ6_bitCount_0f7a4 18 = .ok (.ldc_w 266, 3) := by decide +kernel
theorem dJ6_bitCount_0f7a4_21 : decode cJ6_bitCount_0f7a4 21 = .ok (.iand, 1) := by decide +kernel
theorem dJ6_bitCount_0f7a4_22 : decode cJ6_bitCount_0f7a4 22 = .ok (.iadd, 1) := by decide +kernel
theorem dJ6_bitCount_0f7a4_23 : decode cJ6_bitCount_0f7a4 23 = .ok (.istore_n 0, 1) := by decide +kernel
theorem dJ6_bitCount_0f7a4_24 : decode cJ6_bitCount_0f7a4 24 = .ok (.iload_n 0, 1) := by decide +kernel
theorem dJ6_bitCount_0f7a4_25 : decode cJ6_bitCount_0f7a4 25 = .ok (.iload_n 0, 1) := by decide +kernel
theorem dJ6_bitCount_0f7a4_26 : decode cJ6_bitCount_0f7a4 26 = .ok (.iconst 4, 1) := by decide +kernel
theorem dJ6_bitCount_0f7a4_27 : decode cJ6_bitCount_0f7a4 27 = .ok (.iushr, 1) := by decide +kernel
theorem dJ6_bitCount_0f7a4_28 : decode cJ6_bitCount_0f7a4 28 = .ok (.iadd, 1) := by decide +kernel
theorem dJ6_bitCount_0f7a4_29 : decode cJ6_bitCount_0f7a4 29 = .ok (.ldc_w 267, 3) := by decide +kernel
theorem dJ6_bitCount_0f7a4_32 : decode cJ6_bitCount_0f7a4 32 = .ok (.iand, 1) := by decide +kernel
theorem dJ6_bitCount_0f7a4_33 : decode cJ6_bitCount_0f7a4 33 = .ok (.istore_n 0, 1) := by decide +kernel
theorem dJ6_bitCount_0f7a4_34 : decode cJ6_bitCount_0f7a4 34 = .ok (.iload_n 0, 1) := by decide +kernel
theorem dJ6_bitCount_0f7a4_35 : decode cJ6_bitCount_0f7a4 35 = .ok (.iload_n 0, 1) := by decide +kernel
theorem dJ6_bitCount_0f7a4_36 : decode cJ6_bitCount_0f7a4 36 = .ok (.bipush 8, 2) := by decide +kernel
theorem dJ6_bitCount_0f7a4_38 : decode cJ6_bitCount_0f7a4 38 = .ok (.iushr, 1) := by decide +kernel
theorem dJ6_bitCount_0f7a4_39 : decode cJ6_bitCount_0f7a4 39 = .ok (.iadd, 1) := by decide +kernel
theorem dJ6_bitCount_0f7a4_40 : decode cJ6_bitCount_0f7a4 40 = .ok (.istore_n 0, 1) := by decide +kernel
theorem dJ6_bitCount_0f7a4_41 : decode cJ6_bitCount_0f7a4 41 = .ok (.iload_n 0, 1) := by decide +kernel
theorem dJ6_bitCount_0f7a4_42 : decode cJ6_bitCount_0f7a4 42 = .ok (.iload_n 0, 1) := by decide +kernel
theorem dJ6_bitCount_0f7a4_43 : decode cJ6_bitCount_0f7a4 43 = .ok (.bipush 16, 2) := by decide +kernel
theorem dJ6_bitCount_0f7a4_45 : decode cJ6_bitCount_0f7a4 45 = .ok (.iushr, 1) := by decide +kernel
theorem dJ6_bitCount_0f7a4_46 : decode cJ6_bitCount_0f7a4 46 = .ok (.iadd, 1) := by decide +kernel
theorem dJ6_bitCount_0f7a4_47 : decode cJ6_bitCount_0f7a4 47 = .ok (.istore_n 0, 1) := by decide +kernel
theorem dJ6_bitCount_0f7a4_48 : decode cJ6_bitCount_0f7a4 48 = .ok (.iload_n 0, 1) := by decide +kernel
theorem dJ6_bitCount_0f7a4_49 : decode cJ6_bitCount_0f7a4 49 = .ok (.bipush 63, 2) := by decide +kernel
theorem dJ6_bitCount_0f7a4_51 : decode cJ6_bitCount_0f7a4 51 = .ok (.iand, 1) := by decide +kernel
theorem dJ6_bitCount_0f7a4_52 : decode cJ6_bitCount_0f7a4 52 = .ok (.ireturn, 1) := by decide +kernel
theorem dJ13_bitCount_95d88_0 : decode cJ13_bitCount_95d88 0 = .ok (.lload_n 0, 1) := by decide +kernel
theorem dJ13_bitCount_95d88_1 : decode cJ13_bitCount_95d88 1 = .ok (.lload_n 0, 1) := by decide +kernel
theorem dJ13_bitCount_95d88_2 : decode cJ13_bitCount_95d88 2 = .ok (.iconst 1, 1) := by decide +kernel
theorem dJ13_bitCount_95d88_3 : decode cJ13_bitCount_95d88 3 = .ok (.lushr, 1) := by decide +kernel
theorem dJ13_bitCount_95d88_4 : decode cJ13_bitCount_95d88 4 = .ok (.ldc2_w 314, 3) := by decide +kernel
theorem dJ13_bitCount_95d88_7 : decode cJ13_bitCount_95d88 7 = .ok (.land, 1) := by decide +kernel
theorem dJ13_bitCount_95d88_8 : decode cJ13_bitCount_95d88 8 = .ok (.lsub, 1) := by decide +kernel
theorem dJ13_bitCount_95d88_9 : decode cJ13_bitCount_95d88 9 = .ok (.lstore_n 0, 1) := by decide +kernel
theorem dJ13_bitCount_95d88_10 : decode cJ13_bitCount_95d88 10 = .ok (.lload_n 0, 1) := by decide +kernel
theorem dJ13_bitCount_95d88_11 : decode cJ13_bitCount_95d88 11 = .ok (.ldc2_w 316, 3) := by decide +kernel
theorem dJ13_bitCount_95d88_14 : decode cJ13_bitCount_95d88 14 = .ok (.land, 1) := by decide +kernel
theorem dJ13_bitCount_95d88_15 : decode cJ13_bitCount_95d88 15 = .ok (.lload_n 0, 1) := by decide +kernel
theorem dJ13_bitCount_95d88_16 : decode cJ13_bitCount_95d88 16 = .ok (.iconst 2, 1) := by decide +kernel
theorem dJ13_bitCount_95d88_17 : decode cJ13_bitCount_95d88 17 = .ok (.lushr, 1) := by decide +kernel
theorem dJ13_bitCount_95d88_18 : decode cJ13_bitCount_95d88 18 = .ok (.ldc2_w 316, 3) := by decide +kernel
theorem dJ13_bitCount_95d88_21 : decode cJ13_bitCount_95d88 21 = .ok (.land, 1) := by decide +kernel
theorem dJ13_bitCount_95d88_22 : decode cJ13_bitCount_95d88 22 = .ok (.ladd, 1) := by decide +kernel
theorem dJ13_bitCount_95d88_23 : decode cJ13_bitCount_95d88 23 = .ok (.lstore_n 0, 1) := by decide +kernel
theorem dJ13_bitCount_95d88_24 : decode cJ13_bitCount_95d88 24 = .ok (.lload_n 0, 1) := by decide +kernel
theorem dJ13_bitCount_95d88_25 : decode cJ13_bitCount_95d88 25 = .ok (.lload_n 0, 1) := by decide +kernel
theorem dJ13_bitCount_95d88_26 : decode cJ13_bitCount_95d88 26 = .ok (.iconst 4, 1) := by decide +kernel
theorem dJ13_bitCount_95d88_27 : decode cJ13_bitCount_95d88 27 = .ok (.lushr, 1) := by decide +kernel
theorem dJ13_bitCount_95d88_28 : decode cJ13_bitCount_95d88 28 = .ok (.ladd, 1) := by decide +kernel
theorem dJ13_bitCount_95d88_29 : decode cJ13_bitCount_95d88 29 = .ok (.ldc2_w 318, 3) := by decide +kernel
theorem dJ13_bitCount_95d88_32 : decode cJ13_bitCount_95d88 32 = .ok (.land, 1) := by decide +kernel
theorem dJ13_bitCount_95d88_33 : decode cJ13_bitCount_95d88 33 = .ok (.lstore_n 0, 1) := by decide +kernel
theorem dJ13_bitCount_95d88_34 : decode cJ13_bitCount_95d88 34 = .ok (.lload_n 0, 1) := by decide +kernel
theorem dJ13_bitCount_95d88_35 : decode cJ13_bitCount_95d88 35 = .ok (.lload_n 0, 1) := by decide +kernel
theorem dJ13_bitCount_95d88_36 : decode cJ13_bitCount_95d88 36 = .ok (.bipush 8, 2) := by decide +kernel
theorem dJ13_bitCount_95d88_38 : decode cJ13_bitCount_95d88 38 = .ok (.lushr, 1) := by decide +kernel
theorem dJ13_bitCount_95d88_39 : decode cJ13_bitCount_95d88 39 = .ok (.ladd, 1) := by decide +kernel
theorem dJ13_bitCount_95d88_40 : decode cJ13_bitCount_95d88 40 = .ok (.lstore_n 0, 1) := by decide +kernel
theorem dJ13_bitCount_95d88_41 : decode cJ13_bitCount_95d88 41 = .ok (.lload_n 0, 1) := by decide +kernel
theorem dJ13_bitCount_95d88_42 : decode cJ13_bitCount_95d88 42 = .ok (.lload_n 0, 1) := by decide +kernel
theorem dJ13_bitCount_95d88_43 : decode cJ13_bitCount_95d88 43 = .ok (.bipush 16, 2) := by decide +kernel
theorem dJ13_bitCount_95d88_45 : decode cJ13_bitCount_95d88 45 = .ok (.lushr, 1) := by decide +kernel
theorem dJ13_bitCount_95d88_46 : decode cJ13_bitCount_95d88 46 = .ok (.ladd, 1) := by decide +kernel
theorem dJ13_bitCount_95d88_47 : decode cJ13_bitCount_95d88 47 = .ok (.lstore_n 0, 1) := by decide +kernel
theorem dJ13_bitCount_95d88_48 : decode cJ13_bitCount_95d88 48 = .ok (.lload_n 0, 1) := by decide +kernel
theorem dJ13_bitCount_95d88_49 : decode cJ13_bitCount_95d88 49 = .ok (.lload_n 0, 1) := by decide +kernel
theorem dJ13_bitCount_95d88_50 : decode cJ13_bitCount_95d88 50 = .ok (.bipush 32, 2) := by decide +kernel
theorem dJ13_bitCount_95d88_52 : decode cJ13_bitCount_95d88 52 = .ok (.lushr, 1) := by decide +kernel
theorem dJ13_bitCount_95d88_53 : decode cJ13_bitCount_95d88 53 = .ok (.ladd, 1) := by decide +kernel
theorem dJ13_bitCount_95d88_54 : decode cJ13_bitCount_95d88 54 = .ok (.lstore_n 0, 1) := by decide +kernel
theorem dJ13_bitCount_95d88_55 : decode cJ13_bitCount_95d88 55 = .ok (.lload_n 0, 1) := by decide +kernel
theorem dJ13_bitCount_95d88_56 : decode cJ13_bitCount_95d88 56 = .ok (.l2i, 1) := by decide +kernel
theorem dJ13_bitCount_95d88_57 : decode cJ13_bitCount_95d88 57 = .ok (.bipush 127, 2) := by decide +kernel
theorem dJ13_bitCount_95d88_59 : decode cJ13_bitCount_95d88 59 = .ok (.iand, 1) := by decide +kernel
theorem dJ13_bitCount_95d88_60 : decode cJ13_bitCount_95d88 60 = .ok (.ireturn, 1) := by decide +kernel
theorem dJ9_max_7cf53_0 : decode cJ9_max_7cf53 0 = .ok (.iload_n 0, 1) := by decide +kernel
theorem dJ9_max_7cf53_1 : decode cJ9_max_7cf53 1 = .ok (.iload_n 1, 1) := by decide +kernel
theorem dJ9_max_7cf53_2 : decode cJ9_max_7cf53 2 = .ok (.if_icmp .lt 7, 3) := by decide +kernel
theorem dJ9_max_7cf53_5 : decode cJ9_max_7cf53 5 = .ok (.iload_n 0, 1) := by decide +kernel
theorem dJ9_max_7cf53_6 : decode cJ9_max_7cf53 6 = .ok (.goto 4, 3) := by decide +kernel
theorem dJ9_max_7cf53_9 : decode cJ9_max_7cf53 9 = .ok (.iload_n 1, 1) := by decide +kernel
theorem dJ9_max_7cf53_10 : decode cJ9_max_7cf53 10 = .ok (.ireturn, 1) := by decide +kernel
theorem dJ7_fill_d0a16_0 : decode cJ7_fill_d0a16 0 = .ok (.iconst 0, 1) := by decide +kernel
theorem dJ7_fill_d0a16_1 : decode cJ7_fill_d0a16 1 = .ok (.istore_n 3, 1) := by decide +kernel
theorem dJ7_fill_d0a16_2 : decode cJ7_fill_d0a16 2 = .ok (.aload_n 0, 1) := by decide +kernel
theorem dJ7_fill_d0a16_3 : decode cJ7_fill_d0a16 3 = .ok (.arraylength, 1) := by decide +kernel
theorem dJ7_fill_d0a16_4 : decode cJ7_fill_d0a16 4 = .ok (.istore 4, 2) := by decide +kernel
theorem dJ7_fill_d0a16_6 : decode cJ7_fill_d0a16 6 = .ok (.iload_n 3, 1) := by decide +kernel
theorem dJ7_fill_d0a16_7 : decode cJ7_fill_d0a16 7 = .ok (.iload 4, 2) := by decide +kernel
theorem dJ7_fill_d0a16_9 : decode cJ7_fill_d0a16 9 = .ok (.if_icmp .ge 13, 3) := by decide +kernel
theorem dJ7_fill_d0a16_12 : decode cJ7_fill_d0a16 12 = .ok (.aload_n 0, 1) := by decide +kernel
theorem dJ7_fill_d0a16_13 : decode cJ7_fill_d0a16 13 = .ok (.iload_n 3, 1) := by decide +kernel
theorem dJ7_fill_d0a16_14 : decode cJ7_fill_d0a16 14 = .ok (.lload_n 1, 1) := by decide +kernel
theorem dJ7_fill_d0a16_15 : decode cJ7_fill_d0a16 15 = .ok (.lastore, 1) := by decide +kernel
theorem dJ7_fill_d0a16_16 : decode cJ7_fill_d0a16 16 = .ok (.iinc 3 1, 3) := by decide +kernel
theorem dJ7_fill_d0a16_19 : decode cJ7_fill_d0a16 19 = .ok (.goto (-13), 3) := by decide +kernel
theorem dJ7_fill_d0a16_22 : decode cJ7_fill_d0a16 22 = .ok (.return_, 1) := by decide +kernel
/-! ===== END printed ===== -/
