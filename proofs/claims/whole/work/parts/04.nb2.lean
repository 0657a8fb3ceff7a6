theorem dX3_sendTo_63 : decode cX3_sendTo 63 = .ok (.aload_n 0, 1) := by decide +kernel
theorem dX3_sendTo_64 : decode cX3_sendTo 64 = .ok (.iload_n 2, 1) := by decide +kernel
theorem dX3_sendTo_65 : decode cX3_sendTo 65 = .ok (.iconst 1, 1) := by decide +kernel
theorem dX3_sendTo_66 : decode cX3_sendTo 66 = .ok (.iadd, 1) := by decide +kernel
theorem dX3_sendTo_67 : decode cX3_sendTo 67 = .ok (.invokevirtual 26, 3) := by decide +kernel
theorem dX3_sendTo_70 : decode cX3_sendTo 70 = .ok (.bipush 40, 2) := by decide +kernel
theorem dX3_sendTo_72 : decode cX3_sendTo 72 = .ok (.if_icmp .ne 19, 3) := by decide +kernel
theorem dX3_sendTo_75 : decode cX3_sendTo 75 = .ok (.aload_n 0, 1) := by decide +kernel
theorem dX3_sendTo_76 : decode cX3_sendTo 76 = .ok (.iload_n 2, 1) := by decide +kernel
theorem dX3_sendTo_77 : decode cX3_sendTo 77 = .ok (.iconst 2, 1) := by decide +kernel
theorem dX3_sendTo_78 : decode cX3_sendTo 78 = .ok (.iadd, 1) := by decide +kernel
theorem dX3_sendTo_79 : decode cX3_sendTo 79 = .ok (.iload 4, 2) := by decide +kernel
theorem dX3_sendTo_81 : decode cX3_sendTo 81 = .ok (.invokestatic 42, 3) := by decide +kernel
theorem dX3_sendTo_84 : decode cX3_sendTo 84 = .ok (.invokevirtual 46, 3) := by decide +kernel
theorem dX3_sendTo_87 : decode cX3_sendTo 87 = .ok (.istore_n 2, 1) := by decide +kernel
theorem dX3_sendTo_88 : decode cX3_sendTo 88 = .ok (.goto 10, 3) := by decide +kernel
theorem dX3_sendTo_91 : decode cX3_sendTo 91 = .ok (.aload_n 0, 1) := by decide +kernel
theorem dX3_sendTo_92 : decode cX3_sendTo 92 = .ok (.iload_n 2, 1) := by decide +kernel
theorem dX3_sendTo_93 : decode cX3_sendTo 93 = .ok (.aload_n 1, 1) := by decide +kernel
theorem dX3_sendTo_94 : decode cX3_sendTo 94 = .ok (.invokevirtual 50, 3) := by decide +kernel
theorem dX3_sendTo_97 : decode cX3_sendTo 97 = .ok (.istore_n 2, 1) := by decide +kernel
theorem dX3_sendTo_98 : decode cX3_sendTo 98 = .ok (.iinc 3 1, 3) := by decide +kernel
theorem dX3_sendTo_101 : decode cX3_sendTo 101 = .ok (.goto (-92), 3) := by decide +kernel
theorem dX3_sendTo_104 : decode cX3_sendTo 104 = .ok (.iload_n 2, 1) := by decide +kernel
theorem dX3_sendTo_105 : decode cX3_sendTo 105 = .ok (.aload_n 0, 1) := by decide +kernel
theorem dX3_sendTo_106 : decode cX3_sendTo 106 = .ok (.getfield 22, 3) := by decide +kernel
theorem dX3_sendTo_109 : decode cX3_sendTo 109 = .ok (.if_icmp .lt 7, 3) := by decide +kernel
theorem dX3_sendTo_112 : decode cX3_sendTo 112 = .ok (.iconst 1, 1) := by decide +kernel
theorem dX3_sendTo_113 : decode cX3_sendTo 113 = .ok (.goto 4, 3) := by decide +kernel
theorem dX3_sendTo_116 : decode cX3_sendTo 116 = .ok (.iconst 0, 1) := by decide +kernel
theorem dX3_sendTo_117 : decode cX3_sendTo 117 = .ok (.ireturn, 1) := by decide +kernel
set_option maxRecDepth 20000 in
theorem ggX3_sendItem_X3_characterAt : GoodIn wsX3_sendItem wsX3_characterAt := goodIn_r _ [5, 6, 7, 74, 75, 76, 77, 78] (by decide +kernel) (by decide +kernel)
set_option maxRecDepth 20000 in
theorem gX3_sendItem_X3_characterAt : GoodIn wsX3_sendItem (wsV RX3 26 RX3 yX3_characterAt wsX3_characterAt) := goodIn_app (goodIn_of _ (by decide +kernel)) ggX3_sendItem_X3_characterAt
set_option maxRecDepth 20000 in
theorem ggX3_sendItem_X3_isStretch : GoodIn wsX3_sendItem wsX3_isStretch := goodIn_r _ [10] (by decide +kernel) (by decide +kernel)
set_option maxRecDepth 20000 in
theorem gX3_sendItem_X3_isStretch : GoodIn wsX3_sendItem (va_wsS RX3 54 yX3_isStretch wsX3_isStretch) := goodIn_app (goodIn_of _ (by decide +kernel)) ggX3_sendItem_X3_isStretch
set_option maxRecDepth 20000 in
theorem ggX3_sendItem_X3_numberAt : GoodIn wsX3_sendItem wsX3_numberAt := goodIn_r _ [14, 1, 2, 3, 4, 5, 6, 7, 15, 16, 17, 18, 19, 20, 74, 75, 76, 77, 78] (by decide +kernel) (by decide +kernel)
set_option maxRecDepth 20000 in
theorem gX3_sendItem_X3_numberAt : GoodIn wsX3_sendItem (wsV RX3 58 RX3 yX3_numberAt wsX3_numberAt) := goodIn_app (goodIn_of _ (by decide +kernel)) ggX3_sendItem_X3_numberAt
set_option maxRecDepth 20000 in
theorem ggX3_sendItem_X2_addStretch : GoodIn wsX3_sendItem wsX2_addStretch := goodIn_r _ [25, 26, 27, 28, 29, 24, 30, 31, 32, 33, 34, 35, 36, 37, 38, 39, 40, 79, 80, 81, 82, 83] (by decide +kernel) (by decide +kernel)
set_option maxRecDepth 20000 in
theorem gX3_sendItem_X2_addStretch : GoodIn wsX3_sendItem (wsV RX3 61 RX2 yX2_addStretch wsX2_addStretch) := goodIn_app (goodIn_of _ (by decide +kernel)) ggX3_sendItem_X2_addStretch
set_option maxRecDepth 20000 in
theorem ggX3_sendItem_X3_digit : GoodIn wsX3_sendItem wsX3_digit := goodIn_r _ [17, 18, 19, 4, 20] (by decide +kernel) (by decide +kernel)
set_option maxRecDepth 20000 in
theorem gX3_sendItem_X3_digit : GoodIn wsX3_sendItem (va_wsS RX3 42 yX3_digit wsX3_digit) := goodIn_app (goodIn_of _ (by decide +kernel)) ggX3_sendItem_X3_digit
set_option maxRecDepth 20000 in
theorem ggX3_sendItem_X2_addWord : GoodIn wsX3_sendItem wsX2_addWord := goodIn_r _ [44, 45, 46, 26, 47, 48, 49, 50, 24, 51, 52, 53, 54, 55, 27, 28, 29, 30, 56, 57, 58, 59, 60, 61, 62, 63, 64, 65, 66, 67, 68, 69, 31, 32, 33, 34, 35, 36, 37, 38, 39, 40, 79, 80, 81, 82, 83] (by decide +kernel) (by decide +kernel)
set_option maxRecDepth 20000 in
theorem gX3_sendItem_X2_addWord : GoodIn wsX3_sendItem (wsV RX3 67 RX2 yX2_addWord wsX2_addWord) := goodIn_app (goodIn_of _ (by decide +kernel)) ggX3_sendItem_X2_addWord
set_option maxRecDepth 20000 in
theorem ggX3_sendItem_X3_widthOfItem : GoodIn wsX3_sendItem wsX3_widthOfItem := goodIn_r _ [73, 1, 2, 3, 4, 5, 6, 7, 8, 9, 10, 15, 16, 17, 18, 19, 20, 74, 75, 76, 77, 78] (by decide +kernel) (by decide +kernel)
set_option maxRecDepth 20000 in
theorem gX3_sendItem_X3_widthOfItem : GoodIn wsX3_sendItem (wsV RX3 71 RX3 yX3_widthOfItem wsX3_widthOfItem) := goodIn_app (goodIn_of _ (by decide +kernel)) ggX3_sendItem_X3_widthOfItem
theorem dX3_sendItem_0 : decode cX3_sendItem 0 = .ok (.aload_n 0, 1) := by decide +kernel
theorem dX3_sendItem_1 : decode cX3_sendItem 1 = .ok (.iload_n 1, 1) := by decide +kernel
theorem dX3_sendItem_2 : decode cX3_sendItem 2 = .ok (.invokevirtual 26, 3) := by decide +kernel
theorem dX3_sendItem_5 : decode cX3_sendItem 5 = .ok (.istore_n 3, 1) := by decide +kernel
theorem dX3_sendItem_6 : decode cX3_sendItem 6 = .ok (.iload_n 3, 1) := by decide +kernel
theorem dX3_sendItem_7 : decode cX3_sendItem 7 = .ok (.invokestatic 54, 3) := by decide +kernel
theorem dX3_sendItem_10 : decode cX3_sendItem 10 = .ok (.ifCond .eq 28, 3) := by decide +kernel
theorem dX3_sendItem_13 : decode cX3_sendItem 13 = .ok (.aload_n 2, 1) := by decide +kernel
theorem dX3_sendItem_14 : decode cX3_sendItem 14 = .ok (.iload_n 3, 1) := by decide +kernel
theorem dX3_sendItem_15 : decode cX3_sendItem 15 = .ok (.bipush 46, 2) := by decide +kernel
theorem dX3_sendItem_17 : decode cX3_sendItem 17 = .ok (.if_icmp .ne 7, 3) := by decide +kernel
theorem dX3_sendItem_20 : decode cX3_sendItem 20 = .ok (.iconst 1, 1) := by decide +kernel
theorem dX3_sendItem_21 : decode cX3_sendItem 21 = .ok (.goto 4, 3) := by decide +kernel
theorem dX3_sendItem_24 : decode cX3_sendItem 24 = .ok (.iconst 0, 1) := by decide +kernel
theorem dX3_sendItem_25 : decode cX3_sendItem 25 = .ok (.aload_n 0, 1) := by decide +kernel
theorem dX3_sendItem_26 : decode cX3_sendItem 26 = .ok (.iload_n 1, 1) := by decide +kernel
theorem dX3_sendItem_27 : decode cX3_sendItem 27 = .ok (.iconst 1, 1) := by decide +kernel
theorem dX3_sendItem_28 : decode cX3_sendItem 28 = .ok (.iadd, 1) := by decide +kernel
theorem dX3_sendItem_29 : decode cX3_sendItem 29 = .ok (.invokevirtual 58, 3) := by decide +kernel
theorem dX3_sendItem_32 : decode cX3_sendItem 32 = .ok (.invokevirtual 61, 3) := by decide +kernel
theorem dX3_sendItem_35 : decode cX3_sendItem 35 = .ok (.goto 25, 3) := by decide +kernel
theorem dX3_sendItem_38 : decode cX3_sendItem 38 = .ok (.aload_n 2, 1) := by decide +kernel
theorem dX3_sendItem_39 : decode cX3_sendItem 39 = .ok (.iload_n 3, 1) := by decide +kernel
theorem dX3_sendItem_40 : decode cX3_sendItem 40 = .ok (.invokestatic 42, 3) := by decide +kernel
theorem dX3_sendItem_43 : decode cX3_sendItem 43 = .ok (.bipush 16, 2) := by decide +kernel
theorem dX3_sendItem_45 : decode cX3_sendItem 45 = .ok (.imul, 1) := by decide +kernel
theorem dX3_sendItem_46 : decode cX3_sendItem 46 = .ok (.aload_n 0, 1) := by decide +kernel
theorem dX3_sendItem_47 : decode cX3_sendItem 47 = .ok (.iload_n 1, 1) := by decide +kernel
theorem dX3_sendItem_48 : decode cX3_sendItem 48 = .ok (.iconst 1, 1) := by decide +kernel
theorem dX3_sendItem_49 : decode cX3_sendItem 49 = .ok (.iadd, 1) := by decide +kernel
theorem dX3_sendItem_50 : decode cX3_sendItem 50 = .ok (.invokevirtual 26, 3) := by decide +kernel
theorem dX3_sendItem_53 : decode cX3_sendItem 53 = .ok (.invokestatic 42, 3) := by decide +kernel
theorem dX3_sendItem_56 : decode cX3_sendItem 56 = .ok (.iadd, 1) := by decide +kernel
theorem dX3_sendItem_57 : decode cX3_sendItem 57 = .ok (.invokevirtual 67, 3) := by decide +kernel
theorem dX3_sendItem_60 : decode cX3_sendItem 60 = .ok (.istore 4, 2) := by decide +kernel
theorem dX3_sendItem_62 : decode cX3_sendItem 62 = .ok (.iload 4, 2) := by decide +kernel
theorem dX3_sendItem_64 : decode cX3_sendItem 64 = .ok (.ifCond .eq 13, 3) := by decide +kernel
theorem dX3_sendItem_67 : decode cX3_sendItem 67 = .ok (.iload_n 1, 1) := by decide +kernel
theorem dX3_sendItem_68 : decode cX3_sendItem 68 = .ok (.aload_n 0, 1) := by decide +kernel
theorem dX3_sendItem_69 : decode cX3_sendItem 69 = .ok (.iload_n 1, 1) := by decide +kernel
theorem dX3_sendItem_70 : decode cX3_sendItem 70 = .ok (.invokevirtual 71, 3) := by decide +kernel
theorem dX3_sendItem_73 : decode cX3_sendItem 73 = .ok (.iadd, 1) := by decide +kernel
theorem dX3_sendItem_74 : decode cX3_sendItem 74 = .ok (.goto 5, 3) := by decide +kernel
theorem dX3_sendItem_77 : decode cX3_sendItem 77 = .ok (.bipush (-5), 2) := by decide +kernel
theorem dX3_sendItem_79 : decode cX3_sendItem 79 = .ok (.ireturn, 1) := by decide +kernel
theorem dX3_beginRepeat_0 : decode cX3_beginRepeat 0 = .ok (.aload_n 0, 1) := by decide +kernel
theorem dX3_beginRepeat_1 : decode cX3_beginRepeat 1 = .ok (.getfield 34, 3) := by decide +kernel
theorem dX3_beginRepeat_4 : decode cX3_beginRepeat 4 = .ok (.ifCond .lt 12, 3) := by decide +kernel
theorem dX3_beginRepeat_7 : decode cX3_beginRepeat 7 = .ok (.aload_n 0, 1) := by decide +kernel
theorem dX3_beginRepeat_8 : decode cX3_beginRepeat 8 = .ok (.getfield 34, 3) := by decide +kernel
theorem dX3_beginRepeat_11 : decode cX3_beginRepeat 11 = .ok (.bipush 30, 2) := by decide +kernel
theorem dX3_beginRepeat_13 : decode cX3_beginRepeat 13 = .ok (.if_icmp .lt 6, 3) := by decide +kernel
theorem dX3_beginRepeat_16 : decode cX3_beginRepeat 16 = .ok (.bipush (-5), 2) := by decide +kernel
theorem dX3_beginRepeat_18 : decode cX3_beginRepeat 18 = .ok (.ireturn, 1) := by decide +kernel
theorem dX3_beginRepeat_19 : decode cX3_beginRepeat 19 = .ok (.aload_n 0, 1) := by decide +kernel
theorem dX3_beginRepeat_20 : decode cX3_beginRepeat 20 = .ok (.getfield 15, 3) := by decide +kernel
theorem dX3_beginRepeat_23 : decode cX3_beginRepeat 23 = .ok (.aload_n 0, 1) := by decide +kernel
theorem dX3_beginRepeat_24 : decode cX3_beginRepeat 24 = .ok (.getfield 34, 3) := by decide +kernel
theorem dX3_beginRepeat_27 : decode cX3_beginRepeat 27 = .ok (.iload_n 1, 1) := by decide +kernel
theorem dX3_beginRepeat_28 : decode cX3_beginRepeat 28 = .ok (.iastore, 1) := by decide +kernel
theorem dX3_beginRepeat_29 : decode cX3_beginRepeat 29 = .ok (.aload_n 0, 1) := by decide +kernel
theorem dX3_beginRepeat_30 : decode cX3_beginRepeat 30 = .ok (.getfield 19, 3) := by decide +kernel
theorem dX3_beginRepeat_33 : decode cX3_beginRepeat 33 = .ok (.aload_n 0, 1) := by decide +kernel
theorem dX3_beginRepeat_34 : decode cX3_beginRepeat 34 = .ok (.getfield 34, 3) := by decide +kernel
theorem dX3_beginRepeat_37 : decode cX3_beginRepeat 37 = .ok (.iload_n 2, 1) := by decide +kernel
theorem dX3_beginRepeat_38 : decode cX3_beginRepeat 38 = .ok (.iastore, 1) := by decide +kernel
theorem dX3_beginRepeat_39 : decode cX3_beginRepeat 39 = .ok (.aload_n 0, 1) := by decide +kernel
theorem dX3_beginRepeat_40 : decode cX3_beginRepeat 40 = .ok (.dup, 1) := by decide +kernel
theorem dX3_beginRepeat_41 : decode cX3_beginRepeat 41 = .ok (.getfield 34, 3) := by decide +kernel
theorem dX3_beginRepeat_44 : decode cX3_beginRepeat 44 = .ok (.iconst 1, 1) := by decide +kernel
theorem dX3_beginRepeat_45 : decode cX3_beginRepeat 45 = .ok (.iadd, 1) := by decide +kernel
theorem dX3_beginRepeat_46 : decode cX3_beginRepeat 46 = .ok (.putfield 34, 3) := by decide +kernel
theorem dX3_beginRepeat_49 : decode cX3_beginRepeat 49 = .ok (.iload_n 1, 1) := by decide +kernel
theorem dX3_beginRepeat_50 : decode cX3_beginRepeat 50 = .ok (.ireturn, 1) := by decide +kernel
theorem dX3_endRepeat_0 : decode cX3_endRepeat 0 = .ok (.aload_n 0, 1) := by decide +kernel
theorem dX3_endRepeat_1 : decode cX3_endRepeat 1 = .ok (.getfield 34, 3) := by decide +kernel
theorem dX3_endRepeat_4 : decode cX3_endRepeat 4 = .ok (.iconst 1, 1) := by decide +kernel
theorem dX3_endRepeat_5 : decode cX3_endRepeat 5 = .ok (.isub, 1) := by decide +kernel
theorem dX3_endRepeat_6 : decode cX3_endRepeat 6 = .ok (.istore_n 2, 1) := by decide +kernel
theorem dX3_endRepeat_7 : decode cX3_endRepeat 7 = .ok (.iload_n 2, 1) := by decide +kernel
theorem dX3_endRepeat_8 : decode cX3_endRepeat 8 = .ok (.ifCond .lt 9, 3) := by decide +kernel
theorem dX3_endRepeat_11 : decode cX3_endRepeat 11 = .ok (.iload_n 2, 1) := by decide +kernel
theorem dX3_endRepeat_12 : decode cX3_endRepeat 12 = .ok (.bipush 30, 2) := by decide +kernel
theorem dX3_endRepeat_14 : decode cX3_endRepeat 14 = .ok (.if_icmp .lt 6, 3) := by decide +kernel
theorem dX3_endRepeat_17 : decode cX3_endRepeat 17 = .ok (.bipush (-5), 2) := by decide +kernel
theorem dX3_endRepeat_19 : decode cX3_endRepeat 19 = .ok (.ireturn, 1) := by decide +kernel
theorem dX3_endRepeat_20 : decode cX3_endRepeat 20 = .ok (.aload_n 0, 1) := by decide +kernel
theorem dX3_endRepeat_21 : decode cX3_endRepeat 21 = .ok (.getfield 19, 3) := by decide +kernel
theorem dX3_endRepeat_24 : decode cX3_endRepeat 24 = .ok (.iload_n 2, 1) := by decide +kernel
theorem dX3_endRepeat_25 : decode cX3_endRepeat 25 = .ok (.dup2, 1) := by decide +kernel
theorem dX3_endRepeat_26 : decode cX3_endRepeat 26 = .ok (.iaload, 1) := by decide +kernel
theorem dX3_endRepeat_27 : decode cX3_endRepeat 27 = .ok (.iconst 1, 1) := by decide +kernel
theorem dX3_endRepeat_28 : decode cX3_endRepeat 28 = .ok (.isub, 1) := by decide +kernel
theorem dX3_endRepeat_29 : decode cX3_endRepeat 29 = .ok (.iastore, 1) := by decide +kernel
theorem dX3_endRepeat_30 : decode cX3_endRepeat 30 = .ok (.aload_n 0, 1) := by decide +kernel
theorem dX3_endRepeat_31 : decode cX3_endRepeat 31 = .ok (.getfield 19, 3) := by decide +kernel
theorem dX3_endRepeat_34 : decode cX3_endRepeat 34 = .ok (.iload_n 2, 1) := by decide +kernel
theorem dX3_endRepeat_35 : decode cX3_endRepeat 35 = .ok (.iaload, 1) := by decide +kernel
theorem dX3_endRepeat_36 : decode cX3_endRepeat 36 = .ok (.ifCond .le 10, 3) := by decide +kernel
theorem dX3_endRepeat_39 : decode cX3_endRepeat 39 = .ok (.aload_n 0, 1) := by decide +kernel
theorem dX3_endRepeat_40 : decode cX3_endRepeat 40 = .ok (.getfield 15, 3) := by decide +kernel
theorem dX3_endRepeat_43 : decode cX3_endRepeat 43 = .ok (.iload_n 2, 1) := by decide +kernel
theorem dX3_endRepeat_44 : decode cX3_endRepeat 44 = .ok (.iaload, 1) := by decide +kernel
theorem dX3_endRepeat_45 : decode cX3_endRepeat 45 = .ok (.ireturn, 1) := by decide +kernel
theorem dX3_endRepeat_46 : decode cX3_endRepeat 46 = .ok (.aload_n 0, 1) := by decide +kernel
theorem dX3_endRepeat_47 : decode cX3_endRepeat 47 = .ok (.iload_n 2, 1) := by decide +kernel
theorem dX3_endRepeat_48 : decode cX3_endRepeat 48 = .ok (.putfield 34, 3) := by decide +kernel
theorem dX3_endRepeat_51 : decode cX3_endRepeat 51 = .ok (.iload_n 1, 1) := by decide +kernel
theorem dX3_endRepeat_52 : decode cX3_endRepeat 52 = .ok (.iconst 1, 1) := by decide +kernel
theorem dX3_endRepeat_53 : decode cX3_endRepeat 53 = .ok (.iadd, 1) := by decide +kernel
theorem dX3_endRepeat_54 : decode cX3_endRepeat 54 = .ok (.ireturn, 1) := by decide +kernel
theorem dX3_characterAt_0 : decode cX3_characterAt 0 = .ok (.iload_n 1, 1) := by decide +kernel
theorem dX3_characterAt_1 : decode cX3_characterAt 1 = .ok (.ifCond .lt 11, 3) := by decide +kernel
theorem dX3_characterAt_4 : decode cX3_characterAt 4 = .ok (.iload_n 1, 1) := by decide +kernel
theorem dX3_characterAt_5 : decode cX3_characterAt 5 = .ok (.aload_n 0, 1) := by decide +kernel
theorem dX3_characterAt_6 : decode cX3_characterAt 6 = .ok (.getfield 22, 3) := by decide +kernel
theorem dX3_characterAt_9 : decode cX3_characterAt 9 = .ok (.if_icmp .lt 7, 3) := by decide +kernel
theorem dX3_characterAt_12 : decode cX3_characterAt 12 = .ok (.iconst 0, 1) := by decide +kernel
theorem dX3_characterAt_13 : decode cX3_characterAt 13 = .ok (.goto 9, 3) := by decide +kernel
theorem dX3_characterAt_16 : decode cX3_characterAt 16 = .ok (.aload_n 0, 1) := by decide +kernel
theorem dX3_characterAt_17 : decode cX3_characterAt 17 = .ok (.getfield 11, 3) := by decide +kernel
theorem dX3_characterAt_20 : decode cX3_characterAt 20 = .ok (.iload_n 1, 1) := by decide +kernel
theorem dX3_characterAt_21 : decode cX3_characterAt 21 = .ok (.caload, 1) := by decide +kernel
theorem dX3_characterAt_22 : decode cX3_characterAt 22 = .ok (.ireturn, 1) := by decide +kernel
set_option maxRecDepth 20000 in
theorem ggX3_placeBehind_X3_placeInItem : GoodIn wsX3_placeBehind wsX3_placeInItem := goodIn_r _ [4, 5, 6, 3, 7, 8, 9, 10, 11, 12, 13] (by decide +kernel) (by decide +kernel)
set_option maxRecDepth 20000 in
theorem gX3_placeBehind_X3_placeInItem : GoodIn wsX3_placeBehind (va_wsS RX3 74 yX3_placeInItem wsX3_placeInItem) := goodIn_app (goodIn_of _ (by decide +kernel)) ggX3_placeBehind_X3_placeInItem
set_option maxRecDepth 20000 in
theorem ggX3_placeBehind_X3_placeBehindDigit : GoodIn wsX3_placeBehind wsX3_placeBehindDigit := goodIn_r _ [16, 11, 12, 3, 13, 8, 9, 10] (by decide +kernel) (by decide +kernel)
set_option maxRecDepth 20000 in
theorem gX3_placeBehind_X3_placeBehindDigit : GoodIn wsX3_placeBehind (va_wsS RX3 77 yX3_placeBehindDigit wsX3_placeBehindDigit) := goodIn_app (goodIn_of _ (by decide +kernel)) ggX3_placeBehind_X3_placeBehindDigit
set_option maxRecDepth 20000 in
theorem ggX3_placeBehind_X3_isBetween : GoodIn wsX3_placeBehind wsX3_isBetween := goodIn_r _ [10] (by decide +kernel) (by decide +kernel)
set_option maxRecDepth 20000 in
theorem gX3_placeBehind_X3_isBetween : GoodIn wsX3_placeBehind (va_wsS RX3 80 yX3_isBetween wsX3_isBetween) := goodIn_app (goodIn_of _ (by decide +kernel)) ggX3_placeBehind_X3_isBetween
set_option maxRecDepth 20000 in
theorem ggX3_placeBehind_X3_placeBehindItem : GoodIn wsX3_placeBehind wsX3_placeBehindItem := goodIn_r _ [19] (by decide +kernel) (by decide +kernel)
set_option maxRecDepth 20000 in
theorem gX3_placeBehind_X3_placeBehindItem : GoodIn wsX3_placeBehind (va_wsS RX3 84 yX3_placeBehindItem wsX3_placeBehindItem) := goodIn_app (goodIn_of _ (by decide +kernel)) ggX3_placeBehind_X3_placeBehindItem
theorem dX3_placeBehind_0 : decode cX3_placeBehind 0 = .ok (.iload_n 0, 1) := by decide +kernel
theorem dX3_placeBehind_1 : decode cX3_placeBehind 1 = .ok (.tableswitch 99 0 4 #[35, 40, 45, 60, 78], 35) := by decide +kernel
theorem dX3_placeBehind_36 : decode cX3_placeBehind 36 = .ok (.iload_n 1, 1) := by decide +kernel
theorem dX3_placeBehind_37 : decode cX3_placeBehind 37 = .ok (.invokestatic 74, 3) := by decide +kernel
theorem dX3_placeBehind_40 : decode cX3_placeBehind 40 = .ok (.ireturn, 1) := by decide +kernel
theorem dX3_placeBehind_41 : decode cX3_placeBehind 41 = .ok (.iload_n 1, 1) := by decide +kernel
theorem dX3_placeBehind_42 : decode cX3_placeBehind 42 = .ok (.invokestatic 77, 3) := by decide +kernel
theorem dX3_placeBehind_45 : decode cX3_placeBehind 45 = .ok (.ireturn, 1) := by decide +kernel
theorem dX3_placeBehind_46 : decode cX3_placeBehind 46 = .ok (.iload_n 1, 1) := by decide +kernel
theorem dX3_placeBehind_47 : decode cX3_placeBehind 47 = .ok (.bipush 40, 2) := by decide +kernel
theorem dX3_placeBehind_49 : decode cX3_placeBehind 49 = .ok (.if_icmp .ne 7, 3) := by decide +kernel
theorem dX3_placeBehind_52 : decode cX3_placeBehind 52 = .ok (.iconst 0, 1) := by decide +kernel
theorem dX3_placeBehind_53 : decode cX3_placeBehind 53 = .ok (.goto 7, 3) := by decide +kernel
theorem dX3_placeBehind_56 : decode cX3_placeBehind 56 = .ok (.iload_n 1, 1) := by decide +kernel
theorem dX3_placeBehind_57 : decode cX3_placeBehind 57 = .ok (.invokestatic 77, 3) := by decide +kernel
theorem dX3_placeBehind_60 : decode cX3_placeBehind 60 = .ok (.ireturn, 1) := by decide +kernel
theorem dX3_placeBehind_61 : decode cX3_placeBehind 61 = .ok (.iload_n 1, 1) := by decide +kernel
theorem dX3_placeBehind_62 : decode cX3_placeBehind 62 = .ok (.bipush 49, 2) := by decide +kernel
theorem dX3_placeBehind_64 : decode cX3_placeBehind 64 = .ok (.bipush 57, 2) := by decide +kernel
theorem dX3_placeBehind_66 : decode cX3_placeBehind 66 = .ok (.invokestatic 80, 3) := by decide +kernel
theorem dX3_placeBehind_69 : decode cX3_placeBehind 69 = .ok (.ifCond .eq 7, 3) := by decide +kernel
theorem dX3_placeBehind_72 : decode cX3_placeBehind 72 = .ok (.iconst 4, 1) := by decide +kernel
theorem dX3_placeBehind_73 : decode cX3_placeBehind 73 = .ok (.goto 5, 3) := by decide +kernel
theorem dX3_placeBehind_76 : decode cX3_placeBehind 76 = .ok (.bipush 6, 2) := by decide +kernel
theorem dX3_placeBehind_78 : decode cX3_placeBehind 78 = .ok (.ireturn, 1) := by decide +kernel
theorem dX3_placeBehind_79 : decode cX3_placeBehind 79 = .ok (.iload_n 1, 1) := by decide +kernel
theorem dX3_placeBehind_80 : decode cX3_placeBehind 80 = .ok (.bipush 48, 2) := by decide +kernel
theorem dX3_placeBehind_82 : decode cX3_placeBehind 82 = .ok (.bipush 57, 2) := by decide +kernel
theorem dX3_placeBehind_84 : decode cX3_placeBehind 84 = .ok (.invokestatic 80, 3) := by decide +kernel
theorem dX3_placeBehind_87 : decode cX3_placeBehind 87 = .ok (.ifCond .eq 7, 3) := by decide +kernel
theorem dX3_placeBehind_90 : decode cX3_placeBehind 90 = .ok (.iconst 5, 1) := by decide +kernel
theorem dX3_placeBehind_91 : decode cX3_placeBehind 91 = .ok (.goto 8, 3) := by decide +kernel
theorem dX3_placeBehind_94 : decode cX3_placeBehind 94 = .ok (.iload_n 1, 1) := by decide +kernel
theorem dX3_placeBehind_95 : decode cX3_placeBehind 95 = .ok (.iload_n 2, 1) := by decide +kernel
theorem dX3_placeBehind_96 : decode cX3_placeBehind 96 = .ok (.invokestatic 84, 3) := by decide +kernel
theorem dX3_placeBehind_99 : decode cX3_placeBehind 99 = .ok (.ireturn, 1) := by decide +kernel
theorem dX3_placeBehind_100 : decode cX3_placeBehind 100 = .ok (.iload_n 1, 1) := by decide +kernel
theorem dX3_placeBehind_101 : decode cX3_placeBehind 101 = .ok (.iload_n 2, 1) := by decide +kernel
theorem dX3_placeBehind_102 : decode cX3_placeBehind 102 = .ok (.invokestatic 84, 3) := by decide +kernel
theorem dX3_placeBehind_105 : decode cX3_placeBehind 105 = .ok (.ireturn, 1) := by decide +kernel
set_option maxRecDepth 20000 in
theorem ggX3_placeInItem_X3_isStretch : GoodIn wsX3_placeInItem wsX3_isStretch := goodIn_r _ [4] (by decide +kernel) (by decide +kernel)
set_option maxRecDepth 20000 in
theorem gX3_placeInItem_X3_isStretch : GoodIn wsX3_placeInItem (va_wsS RX3 54 yX3_isStretch wsX3_isStretch) := goodIn_app (goodIn_of _ (by decide +kernel)) ggX3_placeInItem_X3_isStretch
set_option maxRecDepth 20000 in
theorem ggX3_placeInItem_X3_isBetween : GoodIn wsX3_placeInItem wsX3_isBetween := goodIn_r _ [7] (by decide +kernel) (by decide +kernel)
set_option maxRecDepth 20000 in
theorem gX3_placeInItem_X3_isBetween : GoodIn wsX3_placeInItem (va_wsS RX3 80 yX3_isBetween wsX3_isBetween) := goodIn_app (goodIn_of _ (by decide +kernel)) ggX3_placeInItem_X3_isBetween
set_option maxRecDepth 20000 in
theorem ggX3_placeInItem_X3_digit : GoodIn wsX3_placeInItem wsX3_digit := goodIn_r _ [10, 5, 6, 3, 7] (by decide +kernel) (by decide +kernel)
set_option maxRecDepth 20000 in
theorem gX3_placeInItem_X3_digit : GoodIn wsX3_placeInItem (va_wsS RX3 42 yX3_digit wsX3_digit) := goodIn_app (goodIn_of _ (by decide +kernel)) ggX3_placeInItem_X3_digit
theorem dX3_placeInItem_0 : decode cX3_placeInItem 0 = .ok (.iload_n 0, 1) := by decide +kernel
theorem dX3_placeInItem_1 : decode cX3_placeInItem 1 = .ok (.invokestatic 54, 3) := by decide +kernel
theorem dX3_placeInItem_4 : decode cX3_placeInItem 4 = .ok (.ifCond .eq 5, 3) := by decide +kernel
theorem dX3_placeInItem_7 : decode cX3_placeInItem 7 = .ok (.iconst 3, 1) := by decide +kernel
theorem dX3_placeInItem_8 : decode cX3_placeInItem 8 = .ok (.ireturn, 1) := by decide +kernel
theorem dX3_placeInItem_9 : decode cX3_placeInItem 9 = .ok (.iload_n 0, 1) := by decide +kernel
theorem dX3_placeInItem_10 : decode cX3_placeInItem 10 = .ok (.bipush 50, 2) := by decide +kernel
theorem dX3_placeInItem_12 : decode cX3_placeInItem 12 = .ok (.bipush 57, 2) := by decide +kernel
theorem dX3_placeInItem_14 : decode cX3_placeInItem 14 = .ok (.invokestatic 80, 3) := by decide +kernel
theorem dX3_placeInItem_17 : decode cX3_placeInItem 17 = .ok (.ifCond .eq 5, 3) := by decide +kernel
theorem dX3_placeInItem_20 : decode cX3_placeInItem 20 = .ok (.iconst 2, 1) := by decide +kernel
theorem dX3_placeInItem_21 : decode cX3_placeInItem 21 = .ok (.ireturn, 1) := by decide +kernel
theorem dX3_placeInItem_22 : decode cX3_placeInItem 22 = .ok (.iload_n 0, 1) := by decide +kernel
theorem dX3_placeInItem_23 : decode cX3_placeInItem 23 = .ok (.invokestatic 42, 3) := by decide +kernel
theorem dX3_placeInItem_26 : decode cX3_placeInItem 26 = .ok (.bipush (-5), 2) := by decide +kernel
theorem dX3_placeInItem_28 : decode cX3_placeInItem 28 = .ok (.if_icmp .ne 8, 3) := by decide +kernel
theorem dX3_placeInItem_31 : decode cX3_placeInItem 31 = .ok (.bipush 6, 2) := by decide +kernel
theorem dX3_placeInItem_33 : decode cX3_placeInItem 33 = .ok (.goto 4, 3) := by decide +kernel
theorem dX3_placeInItem_36 : decode cX3_placeInItem 36 = .ok (.iconst 1, 1) := by decide +kernel
theorem dX3_placeInItem_37 : decode cX3_placeInItem 37 = .ok (.ireturn, 1) := by decide +kernel
set_option maxRecDepth 20000 in
theorem ggX3_placeBehindDigit_X3_digit : GoodIn wsX3_placeBehindDigit wsX3_digit := goodIn_r _ [4, 5, 6, 3, 7] (by decide +kernel) (by decide +kernel)
set_option maxRecDepth 20000 in
theorem gX3_placeBehindDigit_X3_digit : GoodIn wsX3_placeBehindDigit (va_wsS RX3 42 yX3_digit wsX3_digit) := goodIn_app (goodIn_of _ (by decide +kernel)) ggX3_placeBehindDigit_X3_digit
theorem dX3_placeBehindDigit_0 : decode cX3_placeBehindDigit 0 = .ok (.iload_n 0, 1) := by decide +kernel
theorem dX3_placeBehindDigit_1 : decode cX3_placeBehindDigit 1 = .ok (.invokestatic 42, 3) := by decide +kernel
theorem dX3_placeBehindDigit_4 : decode cX3_placeBehindDigit 4 = .ok (.bipush (-5), 2) := by decide +kernel
theorem dX3_placeBehindDigit_6 : decode cX3_placeBehindDigit 6 = .ok (.if_icmp .ne 8, 3) := by decide +kernel
theorem dX3_placeBehindDigit_9 : decode cX3_placeBehindDigit 9 = .ok (.bipush 6, 2) := by decide +kernel
theorem dX3_placeBehindDigit_11 : decode cX3_placeBehindDigit 11 = .ok (.goto 4, 3) := by decide +kernel
theorem dX3_placeBehindDigit_14 : decode cX3_placeBehindDigit 14 = .ok (.iconst 5, 1) := by decide +kernel
theorem dX3_placeBehindDigit_15 : decode cX3_placeBehindDigit 15 = .ok (.ireturn, 1) := by decide +kernel
theorem dX3_placeBehindItem_0 : decode cX3_placeBehindItem 0 = .ok (.iload_n 0, 1) := by decide +kernel
theorem dX3_placeBehindItem_1 : decode cX3_placeBehindItem 1 = .ok (.bipush 44, 2) := by decide +kernel
theorem dX3_placeBehindItem_3 : decode cX3_placeBehindItem 3 = .ok (.if_icmp .ne 5, 3) := by decide +kernel
theorem dX3_placeBehindItem_6 : decode cX3_placeBehindItem 6 = .ok (.iconst 0, 1) := by decide +kernel
theorem dX3_placeBehindItem_7 : decode cX3_placeBehindItem 7 = .ok (.ireturn, 1) := by decide +kernel
theorem dX3_placeBehindItem_8 : decode cX3_placeBehindItem 8 = .ok (.iload_n 0, 1) := by decide +kernel
theorem dX3_placeBehindItem_9 : decode cX3_placeBehindItem 9 = .ok (.bipush 41, 2) := by decide +kernel
theorem dX3_placeBehindItem_11 : decode cX3_placeBehindItem 11 = .ok (.if_icmp .ne 11, 3) := by decide +kernel
theorem dX3_placeBehindItem_14 : decode cX3_placeBehindItem 14 = .ok (.iload_n 1, 1) := by decide +kernel
theorem dX3_placeBehindItem_15 : decode cX3_placeBehindItem 15 = .ok (.ifCond .le 7, 3) := by decide +kernel
theorem dX3_placeBehindItem_18 : decode cX3_placeBehindItem 18 = .ok (.iconst 5, 1) := by decide +kernel
theorem dX3_placeBehindItem_19 : decode cX3_placeBehindItem 19 = .ok (.goto 5, 3) := by decide +kernel
theorem dX3_placeBehindItem_22 : decode cX3_placeBehindItem 22 = .ok (.bipush 6, 2) := by decide +kernel
theorem dX3_placeBehindItem_24 : decode cX3_placeBehindItem 24 = .ok (.ireturn, 1) := by decide +kernel
set_option maxRecDepth 20000 in
theorem ggX3_widthOfItem_X3_characterAt : GoodIn wsX3_widthOfItem wsX3_characterAt := goodIn_r _ [5, 6, 7, 17, 18, 19, 20, 21] (by decide +kernel) (by decide +kernel)
set_option maxRecDepth 20000 in
theorem gX3_widthOfItem_X3_characterAt : GoodIn wsX3_widthOfItem (wsV RX3 26 RX3 yX3_characterAt wsX3_characterAt) := goodIn_app (goodIn_of _ (by decide +kernel)) ggX3_widthOfItem_X3_characterAt
set_option maxRecDepth 20000 in
theorem ggX3_widthOfItem_X3_isStretch : GoodIn wsX3_widthOfItem wsX3_isStretch := goodIn_r _ [10] (by decide +kernel) (by decide +kernel)
set_option maxRecDepth 20000 in
theorem gX3_widthOfItem_X3_isStretch : GoodIn wsX3_widthOfItem (va_wsS RX3 54 yX3_isStretch wsX3_isStretch) := goodIn_app (goodIn_of _ (by decide +kernel)) ggX3_widthOfItem_X3_isStretch
set_option maxRecDepth 20000 in
theorem ggX3_widthOfItem_X3_digit : GoodIn wsX3_widthOfItem wsX3_digit := goodIn_r _ [13, 14, 15, 4, 16] (by decide +kernel) (by decide +kernel)
set_option maxRecDepth 20000 in
theorem gX3_widthOfItem_X3_digit : GoodIn wsX3_widthOfItem (va_wsS RX3 42 yX3_digit wsX3_digit) := goodIn_app (goodIn_of _ (by decide +kernel)) ggX3_widthOfItem_X3_digit
theorem dX3_widthOfItem_0 : decode cX3_widthOfItem 0 = .ok (.aload_n 0, 1) := by decide +kernel
theorem dX3_widthOfItem_1 : decode cX3_widthOfItem 1 = .ok (.iload_n 1, 1) := by decide +kernel
theorem dX3_widthOfItem_2 : decode cX3_widthOfItem 2 = .ok (.invokevirtual 26, 3) := by decide +kernel
theorem dX3_widthOfItem_5 : decode cX3_widthOfItem 5 = .ok (.invokestatic 54, 3) := by decide +kernel
theorem dX3_widthOfItem_8 : decode cX3_widthOfItem 8 = .ok (.ifCond .eq 22, 3) := by decide +kernel
theorem dX3_widthOfItem_11 : decode cX3_widthOfItem 11 = .ok (.aload_n 0, 1) := by decide +kernel
theorem dX3_widthOfItem_12 : decode cX3_widthOfItem 12 = .ok (.iload_n 1, 1) := by decide +kernel
theorem dX3_widthOfItem_13 : decode cX3_widthOfItem 13 = .ok (.iconst 2, 1) := by decide +kernel
theorem dX3_widthOfItem_14 : decode cX3_widthOfItem 14 = .ok (.iadd, 1) := by decide +kernel
theorem dX3_widthOfItem_15 : decode cX3_widthOfItem 15 = .ok (.invokevirtual 26, 3) := by decide +kernel
theorem dX3_widthOfItem_18 : decode cX3_widthOfItem 18 = .ok (.invokestatic 42, 3) := by decide +kernel
theorem dX3_widthOfItem_21 : decode cX3_widthOfItem 21 = .ok (.bipush (-5), 2) := by decide +kernel
theorem dX3_widthOfItem_23 : decode cX3_widthOfItem 23 = .ok (.if_icmp .eq 7, 3) := by decide +kernel
theorem dX3_widthOfItem_26 : decode cX3_widthOfItem 26 = .ok (.iconst 1, 1) := by decide +kernel
theorem dX3_widthOfItem_27 : decode cX3_widthOfItem 27 = .ok (.goto 4, 3) := by decide +kernel
theorem dX3_widthOfItem_30 : decode cX3_widthOfItem 30 = .ok (.iconst 0, 1) := by decide +kernel
theorem dX3_widthOfItem_31 : decode cX3_widthOfItem 31 = .ok (.istore_n 2, 1) := by decide +kernel
theorem dX3_widthOfItem_32 : decode cX3_widthOfItem 32 = .ok (.iload_n 2, 1) := by decide +kernel
theorem dX3_widthOfItem_33 : decode cX3_widthOfItem 33 = .ok (.ifCond .eq 7, 3) := by decide +kernel
theorem dX3_widthOfItem_36 : decode cX3_widthOfItem 36 = .ok (.iconst 3, 1) := by decide +kernel
theorem dX3_widthOfItem_37 : decode cX3_widthOfItem 37 = .ok (.goto 4, 3) := by decide +kernel
theorem dX3_widthOfItem_40 : decode cX3_widthOfItem 40 = .ok (.iconst 2, 1) := by decide +kernel
theorem dX3_widthOfItem_41 : decode cX3_widthOfItem 41 = .ok (.ireturn, 1) := by decide +kernel
set_option maxRecDepth 20000 in
theorem ggX3_numberAt_X3_characterAt : GoodIn wsX3_numberAt wsX3_characterAt := goodIn_r _ [5, 6, 7, 14, 15, 16, 17, 18] (by decide +kernel) (by decide +kernel)
set_option maxRecDepth 20000 in
theorem gX3_numberAt_X3_characterAt : GoodIn wsX3_numberAt (wsV RX3 26 RX3 yX3_characterAt wsX3_characterAt) := goodIn_app (goodIn_of _ (by decide +kernel)) ggX3_numberAt_X3_characterAt
set_option maxRecDepth 20000 in
theorem ggX3_numberAt_X3_digit : GoodIn wsX3_numberAt wsX3_digit := goodIn_r _ [10, 11, 12, 4, 13] (by decide +kernel) (by decide +kernel)
set_option maxRecDepth 20000 in
theorem gX3_numberAt_X3_digit : GoodIn wsX3_numberAt (va_wsS RX3 42 yX3_digit wsX3_digit) := goodIn_app (goodIn_of _ (by decide +kernel)) ggX3_numberAt_X3_digit
theorem dX3_numberAt_0 : decode cX3_numberAt 0 = .ok (.aload_n 0, 1) := by decide +kernel
theorem dX3_numberAt_1 : decode cX3_numberAt 1 = .ok (.iload_n 1, 1) := by decide +kernel
theorem dX3_numberAt_2 : decode cX3_numberAt 2 = .ok (.invokevirtual 26, 3) := by decide +kernel
theorem dX3_numberAt_5 : decode cX3_numberAt 5 = .ok (.invokestatic 42, 3) := by decide +kernel
theorem dX3_numberAt_8 : decode cX3_numberAt 8 = .ok (.istore_n 2, 1) := by decide +kernel
theorem dX3_numberAt_9 : decode cX3_numberAt 9 = .ok (.aload_n 0, 1) := by decide +kernel
theorem dX3_numberAt_10 : decode cX3_numberAt 10 = .ok (.iload_n 1, 1) := by decide +kernel
theorem dX3_numberAt_11 : decode cX3_numberAt 11 = .ok (.iconst 1, 1) := by decide +kernel
theorem dX3_numberAt_12 : decode cX3_numberAt 12 = .ok (.iadd, 1) := by decide +kernel
theorem dX3_numberAt_13 : decode cX3_numberAt 13 = .ok (.invokevirtual 26, 3) := by decide +kernel
theorem dX3_numberAt_16 : decode cX3_numberAt 16 = .ok (.invokestatic 42, 3) := by decide +kernel
theorem dX3_numberAt_19 : decode cX3_numberAt 19 = .ok (.istore_n 3, 1) := by decide +kernel
theorem dX3_numberAt_20 : decode cX3_numberAt 20 = .ok (.iload_n 3, 1) := by decide +kernel
theorem dX3_numberAt_21 : decode cX3_numberAt 21 = .ok (.bipush (-5), 2) := by decide +kernel
theorem dX3_numberAt_23 : decode cX3_numberAt 23 = .ok (.if_icmp .ne 7, 3) := by decide +kernel
theorem dX3_numberAt_26 : decode cX3_numberAt 26 = .ok (.iload_n 2, 1) := by decide +kernel
theorem dX3_numberAt_27 : decode cX3_numberAt 27 = .ok (.goto 9, 3) := by decide +kernel
theorem dX3_numberAt_30 : decode cX3_numberAt 30 = .ok (.iload_n 2, 1) := by decide +kernel
theorem dX3_numberAt_31 : decode cX3_numberAt 31 = .ok (.bipush 10, 2) := by decide +kernel
theorem dX3_numberAt_33 : decode cX3_numberAt 33 = .ok (.imul, 1) := by decide +kernel
theorem dX3_numberAt_34 : decode cX3_numberAt 34 = .ok (.iload_n 3, 1) := by decide +kernel
theorem dX3_numberAt_35 : decode cX3_numberAt 35 = .ok (.iadd, 1) := by decide +kernel
theorem dX3_numberAt_36 : decode cX3_numberAt 36 = .ok (.ireturn, 1) := by decide +kernel
theorem dX3_isStretch_0 : decode cX3_isStretch 0 = .ok (.iload_n 0, 1) := by decide +kernel
theorem dX3_isStretch_1 : decode cX3_isStretch 1 = .ok (.bipush 46, 2) := by decide +kernel
theorem dX3_isStretch_3 : decode cX3_isStretch 3 = .ok (.if_icmp .eq 9, 3) := by decide +kernel
theorem dX3_isStretch_6 : decode cX3_isStretch 6 = .ok (.iload_n 0, 1) := by decide +kernel
theorem dX3_isStretch_7 : decode cX3_isStretch 7 = .ok (.bipush 95, 2) := by decide +kernel
theorem dX3_isStretch_9 : decode cX3_isStretch 9 = .ok (.if_icmp .ne 7, 3) := by decide +kernel
theorem dX3_isStretch_12 : decode cX3_isStretch 12 = .ok (.iconst 1, 1) := by decide +kernel
theorem dX3_isStretch_13 : decode cX3_isStretch 13 = .ok (.goto 4, 3) := by decide +kernel
theorem dX3_isStretch_16 : decode cX3_isStretch 16 = .ok (.iconst 0, 1) := by decide +kernel
theorem dX3_isStretch_17 : decode cX3_isStretch 17 = .ok (.ireturn, 1) := by decide +kernel
theorem dX3_isBetween_0 : decode cX3_isBetween 0 = .ok (.iload_n 0, 1) := by decide +kernel
theorem dX3_isBetween_1 : decode cX3_isBetween 1 = .ok (.iload_n 1, 1) := by decide +kernel
theorem dX3_isBetween_2 : decode cX3_isBetween 2 = .ok (.if_icmp .lt 12, 3) := by decide +kernel
theorem dX3_isBetween_5 : decode cX3_isBetween 5 = .ok (.iload_n 0, 1) := by decide +kernel
theorem dX3_isBetween_6 : decode cX3_isBetween 6 = .ok (.iload_n 2, 1) := by decide +kernel
theorem dX3_isBetween_7 : decode cX3_isBetween 7 = .ok (.if_icmp .gt 7, 3) := by decide +kernel
theorem dX3_isBetween_10 : decode cX3_isBetween 10 = .ok (.iconst 1, 1) := by decide +kernel
theorem dX3_isBetween_11 : decode cX3_isBetween 11 = .ok (.goto 4, 3) := by decide +kernel
theorem dX3_isBetween_14 : decode cX3_isBetween 14 = .ok (.iconst 0, 1) := by decide +kernel
theorem dX3_isBetween_15 : decode cX3_isBetween 15 = .ok (.ireturn, 1) := by decide +kernel
set_option maxRecDepth 20000 in
theorem ggX3_digit_X3_isBetween : GoodIn wsX3_digit wsX3_isBetween := goodIn_r _ [4] (by decide +kernel) (by decide +kernel)
set_option maxRecDepth 20000 in
theorem gX3_digit_X3_isBetween : GoodIn wsX3_digit (va_wsS RX3 80 yX3_isBetween wsX3_isBetween) := goodIn_app (goodIn_of _ (by decide +kernel)) ggX3_digit_X3_isBetween
theorem dX3_digit_0 : decode cX3_digit 0 = .ok (.iload_n 0, 1) := by decide +kernel
theorem dX3_digit_1 : decode cX3_digit 1 = .ok (.bipush 48, 2) := by decide +kernel
theorem dX3_digit_3 : decode cX3_digit 3 = .ok (.bipush 57, 2) := by decide +kernel
theorem dX3_digit_5 : decode cX3_digit 5 = .ok (.invokestatic 80, 3) := by decide +kernel
theorem dX3_digit_8 : decode cX3_digit 8 = .ok (.ifCond .eq 8, 3) := by decide +kernel
theorem dX3_digit_11 : decode cX3_digit 11 = .ok (.iload_n 0, 1) := by decide +kernel
theorem dX3_digit_12 : decode cX3_digit 12 = .ok (.bipush 48, 2) := by decide +kernel
theorem dX3_digit_14 : decode cX3_digit 14 = .ok (.isub, 1) := by decide +kernel
theorem dX3_digit_15 : decode cX3_digit 15 = .ok (.ireturn, 1) := by decide +kernel
theorem dX3_digit_16 : decode cX3_digit 16 = .ok (.iload_n 0, 1) := by decide +kernel
theorem dX3_digit_17 : decode cX3_digit 17 = .ok (.bipush 97, 2) := by decide +kernel
theorem dX3_digit_19 : decode cX3_digit 19 = .ok (.bipush 102, 2) := by decide +kernel
theorem dX3_digit_21 : decode cX3_digit 21 = .ok (.invokestatic 80, 3) := by decide +kernel
theorem dX3_digit_24 : decode cX3_digit 24 = .ok (.ifCond .eq 13, 3) := by decide +kernel
theorem dX3_digit_27 : decode cX3_digit 27 = .ok (.iload_n 0, 1) := by decide +kernel
theorem dX3_digit_28 : decode cX3_digit 28 = .ok (.bipush 97, 2) := by decide +kernel
theorem dX3_digit_30 : decode cX3_digit 30 = .ok (.isub, 1) := by decide +kernel
theorem dX3_digit_31 : decode cX3_digit 31 = .ok (.bipush 10, 2) := by decide +kernel
theorem dX3_digit_33 : decode cX3_digit 33 = .ok (.iadd, 1) := by decide +kernel
theorem dX3_digit_34 : decode cX3_digit 34 = .ok (.goto 5, 3) := by decide +kernel
theorem dX3_digit_37 : decode cX3_digit 37 = .ok (.bipush (-5), 2) := by decide +kernel
theorem dX3_digit_39 : decode cX3_digit 39 = .ok (.ireturn, 1) := by decide +kernel
set_option maxRecDepth 20000 in
theorem ggX4_init_X2_init : GoodIn wsX4_init wsX2_init := goodIn_r _ [23, 24, 2, 3, 25, 26, 27, 28, 29, 30, 31, 32, 33, 34, 35, 36, 37, 38, 61, 62, 63, 64, 65] (by decide +kernel) (by decide +kernel)
set_option maxRecDepth 20000 in
theorem gX4_init_X2_init : GoodIn wsX4_init (wsX2_init) := ggX4_init_X2_init
set_option maxRecDepth 20000 in
theorem ggX4_init_X1_init : GoodIn wsX4_init wsX1_init := goodIn_r _ [41, 42, 2, 3, 43, 27, 44, 71, 72, 73, 74] (by decide +kernel) (by decide +kernel)
set_option maxRecDepth 20000 in
theorem gX4_init_X1_init : GoodIn wsX4_init (wsX1_init) := ggX4_init_X1_init
set_option maxRecDepth 20000 in
theorem ggX4_init_X3_init : GoodIn wsX4_init wsX3_init := goodIn_r _ [47, 48, 2, 3, 49, 50, 27, 51, 52, 75, 76, 77, 78, 79] (by decide +kernel) (by decide +kernel)
set_option maxRecDepth 20000 in
theorem gX4_init_X3_init : GoodIn wsX4_init (wsX3_init) := ggX4_init_X3_init
set_option maxRecDepth 20000 in
theorem ggX4_init_X0_init : GoodIn wsX4_init wsX0_init := goodIn_r _ [55, 56, 2, 3, 57, 58, 5, 6, 59, 60, 22, 23, 24, 25, 26, 27, 28, 29, 30, 31, 32, 33, 34, 35, 36, 37, 38, 80, 81, 82, 83, 61, 62, 63, 64, 65] (by decide +kernel) (by decide +kernel)
set_option maxRecDepth 20000 in
theorem gX4_init_X0_init : GoodIn wsX4_init (wsX0_init) := ggX4_init_X0_init
theorem dX4_init_0 : decode cX4_init 0 = .ok (.aload_n 0, 1) := by decide +kernel
theorem dX4_init_1 : decode cX4_init 1 = .ok (.invokespecial 3, 3) := by decide +kernel
theorem dX4_init_4 : decode cX4_init 4 = .ok (.aload_n 0, 1) := by decide +kernel
theorem dX4_init_5 : decode cX4_init 5 = .ok (.new 9, 3) := by decide +kernel
theorem dX4_init_8 : decode cX4_init 8 = .ok (.dup, 1) := by decide +kernel
theorem dX4_init_9 : decode cX4_init 9 = .ok (.invokespecial 11, 3) := by decide +kernel
theorem dX4_init_12 : decode cX4_init 12 = .ok (.putfield 12, 3) := by decide +kernel
theorem dX4_init_15 : decode cX4_init 15 = .ok (.aload_n 0, 1) := by decide +kernel
theorem dX4_init_16 : decode cX4_init 16 = .ok (.new 9, 3) := by decide +kernel
theorem dX4_init_19 : decode cX4_init 19 = .ok (.dup, 1) := by decide +kernel
theorem dX4_init_20 : decode cX4_init 20 = .ok (.invokespecial 11, 3) := by decide +kernel
theorem dX4_init_23 : decode cX4_init 23 = .ok (.putfield 16, 3) := by decide +kernel
theorem dX4_init_26 : decode cX4_init 26 = .ok (.aload_n 0, 1) := by decide +kernel
theorem dX4_init_27 : decode cX4_init 27 = .ok (.new 19, 3) := by decide +kernel
theorem dX4_init_30 : decode cX4_init 30 = .ok (.dup, 1) := by decide +kernel
theorem dX4_init_31 : decode cX4_init 31 = .ok (.invokespecial 21, 3) := by decide +kernel
theorem dX4_init_34 : decode cX4_init 34 = .ok (.putfield 22, 3) := by decide +kernel
theorem dX4_init_37 : decode cX4_init 37 = .ok (.aload_n 0, 1) := by decide +kernel
theorem dX4_init_38 : decode cX4_init 38 = .ok (.new 26, 3) := by decide +kernel
theorem dX4_init_41 : decode cX4_init 41 = .ok (.dup, 1) := by decide +kernel
theorem dX4_init_42 : decode cX4_init 42 = .ok (.invokespecial 28, 3) := by decide +kernel
theorem dX4_init_45 : decode cX4_init 45 = .ok (.putfield 29, 3) := by decide +kernel
theorem dX4_init_48 : decode cX4_init 48 = .ok (.aload_n 0, 1) := by decide +kernel
theorem dX4_init_49 : decode cX4_init 49 = .ok (.new 33, 3) := by decide +kernel
theorem dX4_init_52 : decode cX4_init 52 = .ok (.dup, 1) := by decide +kernel
theorem dX4_init_53 : decode cX4_init 53 = .ok (.invokespecial 35, 3) := by decide +kernel
theorem dX4_init_56 : decode cX4_init 56 = .ok (.putfield 36, 3) := by decide +kernel
theorem dX4_init_59 : decode cX4_init 59 = .ok (.return_, 1) := by decide +kernel
set_option maxRecDepth 20000 in
theorem ggX4_send_X4_isWord : GoodIn wsX4_send wsX4_isWord := goodIn_r _ [6] (by decide +kernel) (by decide +kernel)
set_option maxRecDepth 20000 in
theorem gX4_send_X4_isWord : GoodIn wsX4_send (va_wsS RX4 40 yX4_isWord wsX4_isWord) := goodIn_app (goodIn_of _ (by decide +kernel)) ggX4_send_X4_isWord
set_option maxRecDepth 20000 in
theorem ggX4_send_X2_ticksOfWord : GoodIn wsX4_send wsX2_ticksOfWord := goodIn_r _ [11, 12, 13, 14, 15, 10, 16, 81, 82, 83, 84, 85] (by decide +kernel) (by decide +kernel)
set_option maxRecDepth 20000 in
theorem gX4_send_X2_ticksOfWord : GoodIn wsX4_send (wsV RX4 44 RX2 yX2_ticksOfWord wsX2_ticksOfWord) := goodIn_app (goodIn_of _ (by decide +kernel)) ggX4_send_X2_ticksOfWord
set_option maxRecDepth 20000 in
theorem ggX4_send_X2_hasRoom : GoodIn wsX4_send wsX2_hasRoom := goodIn_r _ [20, 21, 81, 82, 83, 84, 85] (by decide +kernel) (by decide +kernel)
set_option maxRecDepth 20000 in
theorem gX4_send_X2_hasRoom : GoodIn wsX4_send (wsV RX4 48 RX2 yX2_hasRoom wsX2_hasRoom) := goodIn_app (goodIn_of _ (by decide +kernel)) ggX4_send_X2_hasRoom
set_option maxRecDepth 20000 in
theorem ggX4_send_X0_remember : GoodIn wsX4_send wsX0_remember := goodIn_r _ [26, 27, 28, 29, 30, 31, 25, 32, 33, 34, 35, 10, 36, 37, 38, 39, 40, 41, 42, 12, 21, 43, 86, 87, 88, 89, 81, 82, 83, 84, 85] (by decide +kernel) (by decide +kernel)
set_option maxRecDepth 20000 in
theorem gX4_send_X0_remember : GoodIn wsX4_send (wsV RX4 51 RX0 yX0_remember wsX0_remember) := goodIn_app (goodIn_of _ (by decide +kernel)) ggX4_send_X0_remember
set_option maxRecDepth 20000 in
theorem ggX4_send_X2_addWord : GoodIn wsX4_send wsX2_addWord := goodIn_r _ [47, 43, 12, 21, 42, 48, 8, 9, 10, 11, 13, 14, 15, 16, 49, 18, 19, 20, 50, 51, 52, 53, 54, 5, 55, 56, 57, 58, 59, 60, 61, 62, 63, 64, 65, 66, 67, 68, 69, 70, 37, 71, 81, 82, 83, 84, 85] (by decide +kernel) (by decide +kernel)
set_option maxRecDepth 20000 in
theorem gX4_send_X2_addWord : GoodIn wsX4_send (wsV RX4 55 RX2 yX2_addWord wsX2_addWord) := goodIn_app (goodIn_of _ (by decide +kernel)) ggX4_send_X2_addWord
set_option maxRecDepth 20000 in
theorem ggX4_send_X2_end : GoodIn wsX4_send wsX2_end := goodIn_r _ [75, 21, 81, 82, 83, 84, 85] (by decide +kernel) (by decide +kernel)
set_option maxRecDepth 20000 in
theorem gX4_send_X2_end : GoodIn wsX4_send (wsV RX4 58 RX2 yX2_end wsX2_end) := goodIn_app (goodIn_of _ (by decide +kernel)) ggX4_send_X2_end
theorem dX4_send_0 : decode cX4_send 0 = .ok (.iload_n 1, 1) := by decide +kernel
theorem dX4_send_1 : decode cX4_send 1 = .ok (.invokestatic 40, 3) := by decide +kernel
theorem dX4_send_4 : decode cX4_send 4 = .ok (.ifCond .ne 6, 3) := by decide +kernel
theorem dX4_send_7 : decode cX4_send 7 = .ok (.bipush (-2), 2) := by decide +kernel
theorem dX4_send_9 : decode cX4_send 9 = .ok (.ireturn, 1) := by decide +kernel
theorem dX4_send_10 : decode cX4_send 10 = .ok (.aload_n 0, 1) := by decide +kernel
theorem dX4_send_11 : decode cX4_send 11 = .ok (.getfield 12, 3) := by decide +kernel
theorem dX4_send_14 : decode cX4_send 14 = .ok (.aload_n 0, 1) := by decide +kernel
theorem dX4_send_15 : decode cX4_send 15 = .ok (.getfield 12, 3) := by decide +kernel
theorem dX4_send_18 : decode cX4_send 18 = .ok (.invokevirtual 44, 3) := by decide +kernel
theorem dX4_send_21 : decode cX4_send 21 = .ok (.invokevirtual 48, 3) := by decide +kernel
theorem dX4_send_24 : decode cX4_send 24 = .ok (.ifCond .ne 6, 3) := by decide +kernel
theorem dX4_send_27 : decode cX4_send 27 = .ok (.bipush (-3), 2) := by decide +kernel
theorem dX4_send_29 : decode cX4_send 29 = .ok (.ireturn, 1) := by decide +kernel
theorem dX4_send_30 : decode cX4_send 30 = .ok (.aload_n 0, 1) := by decide +kernel
theorem dX4_send_31 : decode cX4_send 31 = .ok (.getfield 36, 3) := by decide +kernel
theorem dX4_send_34 : decode cX4_send 34 = .ok (.aload_n 0, 1) := by decide +kernel
theorem dX4_send_35 : decode cX4_send 35 = .ok (.getfield 12, 3) := by decide +kernel
theorem dX4_send_38 : decode cX4_send 38 = .ok (.invokevirtual 51, 3) := by decide +kernel
theorem dX4_send_41 : decode cX4_send 41 = .ok (.aload_n 0, 1) := by decide +kernel
theorem dX4_send_42 : decode cX4_send 42 = .ok (.getfield 12, 3) := by decide +kernel
theorem dX4_send_45 : decode cX4_send 45 = .ok (.iload_n 1, 1) := by decide +kernel
theorem dX4_send_46 : decode cX4_send 46 = .ok (.invokevirtual 55, 3) := by decide +kernel
theorem dX4_send_49 : decode cX4_send 49 = .ok (.pop, 1) := by decide +kernel
theorem dX4_send_50 : decode cX4_send 50 = .ok (.aload_n 0, 1) := by decide +kernel
theorem dX4_send_51 : decode cX4_send 51 = .ok (.getfield 12, 3) := by decide +kernel
theorem dX4_send_54 : decode cX4_send 54 = .ok (.invokevirtual 58, 3) := by decide +kernel
theorem dX4_send_57 : decode cX4_send 57 = .ok (.ireturn, 1) := by decide +kernel
set_option maxRecDepth 20000 in
theorem ggX4_pause_X4_sendStretch : GoodIn wsX4_pause wsX4_sendStretch := goodIn_r _ [5, 6, 7, 8, 9, 10, 11, 12, 13, 14, 15, 16, 17, 18, 19, 20, 21, 22, 23, 24, 25, 26, 27, 28, 29, 30, 31, 32, 33, 34, 35, 36, 37, 38, 39, 40, 41, 42, 43, 44, 45, 46, 47, 48, 49, 50, 51, 52, 53, 54, 55, 56, 57, 58, 59, 60, 61, 62, 63, 64, 65, 66, 67, 68] (by decide +kernel) (by decide +kernel)
set_option maxRecDepth 20000 in
theorem gX4_pause_X4_sendStretch : GoodIn wsX4_pause (wsV RX4 61 RX4 yX4_sendStretch wsX4_sendStretch) := goodIn_app (goodIn_of _ (by decide +kernel)) ggX4_pause_X4_sendStretch
theorem dX4_pause_0 : decode cX4_pause 0 = .ok (.aload_n 0, 1) := by decide +kernel
theorem dX4_pause_1 : decode cX4_pause 1 = .ok (.iconst 1, 1) := by decide +kernel
theorem dX4_pause_2 : decode cX4_pause 2 = .ok (.iload_n 1, 1) := by decide +kernel
theorem dX4_pause_3 : decode cX4_pause 3 = .ok (.invokevirtual 61, 3) := by decide +kernel
theorem dX4_pause_6 : decode cX4_pause 6 = .ok (.ireturn, 1) := by decide +kernel
set_option maxRecDepth 20000 in
theorem ggX4_sendBreak_X4_sendStretch : GoodIn wsX4_sendBreak wsX4_sendStretch := goodIn_r _ [5, 6, 7, 8, 9, 10, 11, 12, 13, 14, 15, 16, 17, 18, 19, 20, 21, 22, 23, 24, 25, 26, 27, 28, 29, 30, 31, 32, 33, 34, 35, 36, 37, 38, 39, 40, 41, 42, 43, 44, 45, 46, 47, 48, 49, 50, 51, 52, 53, 54, 55, 56, 57, 58, 59, 60, 61, 62, 63, 64, 65, 66, 67, 68] (by decide +kernel) (by decide +kernel)
set_option maxRecDepth 20000 in
theorem gX4_sendBreak_X4_sendStretch : GoodIn wsX4_sendBreak (wsV RX4 61 RX4 yX4_sendStretch wsX4_sendStretch) := goodIn_app (goodIn_of _ (by decide +kernel)) ggX4_sendBreak_X4_sendStretch
theorem dX4_sendBreak_0 : decode cX4_sendBreak 0 = .ok (.aload_n 0, 1) := by decide +kernel
theorem dX4_sendBreak_1 : decode cX4_sendBreak 1 = .ok (.iconst 0, 1) := by decide +kernel
theorem dX4_sendBreak_2 : decode cX4_sendBreak 2 = .ok (.iload_n 1, 1) := by decide +kernel
theorem dX4_sendBreak_3 : decode cX4_sendBreak 3 = .ok (.invokevirtual 61, 3) := by decide +kernel
theorem dX4_sendBreak_6 : decode cX4_sendBreak 6 = .ok (.ireturn, 1) := by decide +kernel
set_option maxRecDepth 20000 in
theorem ggX4_disturb_X4_isDisturbance : GoodIn wsX4_disturb wsX4_isDisturbance := goodIn_r _ [6] (by decide +kernel) (by decide +kernel)
set_option maxRecDepth 20000 in
theorem gX4_disturb_X4_isDisturbance : GoodIn wsX4_disturb (va_wsS RX4 65 yX4_isDisturbance wsX4_isDisturbance) := goodIn_app (goodIn_of _ (by decide +kernel)) ggX4_disturb_X4_isDisturbance
set_option maxRecDepth 20000 in
theorem ggX4_disturb_X2_end : GoodIn wsX4_disturb wsX2_end := goodIn_r _ [11, 12, 53, 54, 55, 56, 57] (by decide +kernel) (by decide +kernel)
set_option maxRecDepth 20000 in
theorem gX4_disturb_X2_end : GoodIn wsX4_disturb (wsV RX4 58 RX2 yX2_end wsX2_end) := goodIn_app (goodIn_of _ (by decide +kernel)) ggX4_disturb_X2_end
set_option maxRecDepth 20000 in
theorem ggX4_disturb_X0_remember : GoodIn wsX4_disturb wsX0_remember := goodIn_r _ [17, 18, 19, 20, 21, 22, 16, 23, 24, 25, 26, 10, 27, 28, 29, 30, 31, 32, 33, 34, 12, 35, 58, 59, 60, 61, 53, 54, 55, 56, 57] (by decide +kernel) (by decide +kernel)
set_option maxRecDepth 20000 in
theorem gX4_disturb_X0_remember : GoodIn wsX4_disturb (wsV RX4 51 RX0 yX0_remember wsX0_remember) := goodIn_app (goodIn_of _ (by decide +kernel)) ggX4_disturb_X0_remember
set_option maxRecDepth 20000 in
theorem ggX4_disturb_X2_flip : GoodIn wsX4_disturb wsX2_flip := goodIn_r _ [39, 40, 41, 42, 43, 12, 28, 44, 45, 46, 10, 47, 53, 54, 55, 56, 57] (by decide +kernel) (by decide +kernel)
set_option maxRecDepth 20000 in
theorem gX4_disturb_X2_flip : GoodIn wsX4_disturb (wsV RX4 68 RX2 yX2_flip wsX2_flip) := goodIn_app (goodIn_of _ (by decide +kernel)) ggX4_disturb_X2_flip
theorem dX4_disturb_0 : decode cX4_disturb 0 = .ok (.iload_n 2, 1) := by decide +kernel
theorem dX4_disturb_1 : decode cX4_disturb 1 = .ok (.invokestatic 65, 3) := by decide +kernel
theorem dX4_disturb_4 : decode cX4_disturb 4 = .ok (.ifCond .eq 20, 3) := by decide +kernel
theorem dX4_disturb_7 : decode cX4_disturb 7 = .ok (.iload_n 1, 1) := by decide +kernel
theorem dX4_disturb_8 : decode cX4_disturb 8 = .ok (.ifCond .lt 16, 3) := by decide +kernel
theorem dX4_disturb_11 : decode cX4_disturb 11 = .ok (.iload_n 1, 1) := by decide +kernel
theorem dX4_disturb_12 : decode cX4_disturb 12 = .ok (.aload_n 0, 1) := by decide +kernel
theorem dX4_disturb_13 : decode cX4_disturb 13 = .ok (.getfield 12, 3) := by decide +kernel
theorem dX4_disturb_16 : decode cX4_disturb 16 = .ok (.invokevirtual 58, 3) := by decide +kernel
theorem dX4_disturb_19 : decode cX4_disturb 19 = .ok (.iload_n 2, 1) := by decide +kernel
theorem dX4_disturb_20 : decode cX4_disturb 20 = .ok (.isub, 1) := by decide +kernel
theorem dX4_disturb_21 : decode cX4_disturb 21 = .ok (.if_icmp .le 6, 3) := by decide +kernel
theorem dX4_disturb_24 : decode cX4_disturb 24 = .ok (.bipush (-2), 2) := by decide +kernel
theorem dX4_disturb_26 : decode cX4_disturb 26 = .ok (.ireturn, 1) := by decide +kernel
theorem dX4_disturb_27 : decode cX4_disturb 27 = .ok (.aload_n 0, 1) := by decide +kernel
theorem dX4_disturb_28 : decode cX4_disturb 28 = .ok (.getfield 36, 3) := by decide +kernel
theorem dX4_disturb_31 : decode cX4_disturb 31 = .ok (.aload_n 0, 1) := by decide +kernel
theorem dX4_disturb_32 : decode cX4_disturb 32 = .ok (.getfield 12, 3) := by decide +kernel
theorem dX4_disturb_35 : decode cX4_disturb 35 = .ok (.invokevirtual 51, 3) := by decide +kernel
theorem dX4_disturb_38 : decode cX4_disturb 38 = .ok (.aload_n 0, 1) := by decide +kernel
theorem dX4_disturb_39 : decode cX4_disturb 39 = .ok (.getfield 12, 3) := by decide +kernel
theorem dX4_disturb_42 : decode cX4_disturb 42 = .ok (.iload_n 1, 1) := by decide +kernel
theorem dX4_disturb_43 : decode cX4_disturb 43 = .ok (.iload_n 2, 1) := by decide +kernel
theorem dX4_disturb_44 : decode cX4_disturb 44 = .ok (.invokevirtual 68, 3) := by decide +kernel
theorem dX4_disturb_47 : decode cX4_disturb 47 = .ok (.ireturn, 1) := by decide +kernel
set_option maxRecDepth 20000 in
theorem ggX4_clear_X2_end : GoodIn wsX4_clear wsX2_end := goodIn_r _ [7, 8, 46, 47, 48, 49, 50] (by decide +kernel) (by decide +kernel)
set_option maxRecDepth 20000 in
theorem gX4_clear_X2_end : GoodIn wsX4_clear (wsV RX4 58 RX2 yX2_end wsX2_end) := goodIn_app (goodIn_of _ (by decide +kernel)) ggX4_clear_X2_end
set_option maxRecDepth 20000 in
theorem ggX4_clear_X0_remember : GoodIn wsX4_clear wsX0_remember := goodIn_r _ [13, 14, 15, 16, 17, 18, 12, 19, 20, 21, 22, 6, 23, 24, 25, 26, 27, 28, 29, 30, 8, 31, 51, 52, 53, 54, 46, 47, 48, 49, 50] (by decide +kernel) (by decide +kernel)
set_option maxRecDepth 20000 in
theorem gX4_clear_X0_remember : GoodIn wsX4_clear (wsV RX4 51 RX0 yX0_remember wsX0_remember) := goodIn_app (goodIn_of _ (by decide +kernel)) ggX4_clear_X0_remember
set_option maxRecDepth 20000 in
theorem ggX4_clear_X2_clearWire : GoodIn wsX4_clear wsX2_clearWire := goodIn_r _ [35, 24, 36, 8, 31, 37, 38, 39, 40, 46, 47, 48, 49, 50] (by decide +kernel) (by decide +kernel)
set_option maxRecDepth 20000 in
theorem gX4_clear_X2_clearWire : GoodIn wsX4_clear (wsV RX4 71 RX2 yX2_clearWire wsX2_clearWire) := goodIn_app (goodIn_of _ (by decide +kernel)) ggX4_clear_X2_clearWire
theorem dX4_clear_0 : decode cX4_clear 0 = .ok (.aload_n 0, 1) := by decide +kernel
theorem dX4_clear_1 : decode cX4_clear 1 = .ok (.getfield 12, 3) := by decide +kernel
theorem dX4_clear_4 : decode cX4_clear 4 = .ok (.invokevirtual 58, 3) := by decide +kernel
theorem dX4_clear_7 : decode cX4_clear 7 = .ok (.istore_n 1, 1) := by decide +kernel
theorem dX4_clear_8 : decode cX4_clear 8 = .ok (.aload_n 0, 1) := by decide +kernel
theorem dX4_clear_9 : decode cX4_clear 9 = .ok (.getfield 36, 3) := by decide +kernel
theorem dX4_clear_12 : decode cX4_clear 12 = .ok (.aload_n 0, 1) := by decide +kernel
theorem dX4_clear_13 : decode cX4_clear 13 = .ok (.getfield 12, 3) := by decide +kernel
theorem dX4_clear_16 : decode cX4_clear 16 = .ok (.invokevirtual 51, 3) := by decide +kernel
theorem dX4_clear_19 : decode cX4_clear 19 = .ok (.aload_n 0, 1) := by decide +kernel
theorem dX4_clear_20 : decode cX4_clear 20 = .ok (.getfield 12, 3) := by decide +kernel
theorem dX4_clear_23 : decode cX4_clear 23 = .ok (.invokevirtual 71, 3) := by decide +kernel
theorem dX4_clear_26 : decode cX4_clear 26 = .ok (.iload_n 1, 1) := by decide +kernel
theorem dX4_clear_27 : decode cX4_clear 27 = .ok (.ireturn, 1) := by decide +kernel
set_option maxRecDepth 20000 in
theorem ggX4_set_X2_setting : GoodIn wsX4_set wsX2_setting := goodIn_r _ [9, 10, 43, 44, 45, 46, 47] (by decide +kernel) (by decide +kernel)
set_option maxRecDepth 20000 in
theorem gX4_set_X2_setting : GoodIn wsX4_set (wsV RX4 81 RX2 yX2_setting wsX2_setting) := goodIn_app (goodIn_of _ (by decide +kernel)) ggX4_set_X2_setting
set_option maxRecDepth 20000 in
theorem ggX4_set_X0_remember : GoodIn wsX4_set wsX0_remember := goodIn_r _ [15, 16, 17, 18, 19, 20, 14, 21, 22, 23, 24, 8, 25, 26, 27, 28, 29, 30, 31, 10, 32, 33, 48, 49, 50, 51, 43, 44, 45, 46, 47] (by decide +kernel) (by decide +kernel)
set_option maxRecDepth 20000 in
theorem gX4_set_X0_remember : GoodIn wsX4_set (wsV RX4 51 RX0 yX0_remember wsX0_remember) := goodIn_app (goodIn_of _ (by decide +kernel)) ggX4_set_X0_remember
set_option maxRecDepth 20000 in
theorem ggX4_set_X2_change : GoodIn wsX4_set wsX2_change := goodIn_r _ [37, 10, 43, 44, 45, 46, 47] (by decide +kernel) (by decide +kernel)
set_option maxRecDepth 20000 in
theorem gX4_set_X2_change : GoodIn wsX4_set (wsV RX4 85 RX2 yX2_change wsX2_change) := goodIn_app (goodIn_of _ (by decide +kernel)) ggX4_set_X2_change
theorem dX4_set_0 : decode cX4_set 0 = .ok (.iload_n 1, 1) := by decide +kernel
theorem dX4_set_1 : decode cX4_set 1 = .ok (.ifCond .lt 8, 3) := by decide +kernel
theorem dX4_set_4 : decode cX4_set 4 = .ok (.iload_n 1, 1) := by decide +kernel
theorem dX4_set_5 : decode cX4_set 5 = .ok (.iconst 5, 1) := by decide +kernel
theorem dX4_set_6 : decode cX4_set 6 = .ok (.if_icmp .lt 5, 3) := by decide +kernel
theorem dX4_set_9 : decode cX4_set 9 = .ok (.iconst (-1), 1) := by decide +kernel
theorem dX4_set_10 : decode cX4_set 10 = .ok (.ireturn, 1) := by decide +kernel
theorem dX4_set_11 : decode cX4_set 11 = .ok (.iload_n 2, 1) := by decide +kernel
theorem dX4_set_12 : decode cX4_set 12 = .ok (.getstatic 74, 3) := by decide +kernel
theorem dX4_set_15 : decode cX4_set 15 = .ok (.iload_n 1, 1) := by decide +kernel
theorem dX4_set_16 : decode cX4_set 16 = .ok (.iaload, 1) := by decide +kernel
theorem dX4_set_17 : decode cX4_set 17 = .ok (.if_icmp .lt 12, 3) := by decide +kernel
theorem dX4_set_20 : decode cX4_set 20 = .ok (.iload_n 2, 1) := by decide +kernel
theorem dX4_set_21 : decode cX4_set 21 = .ok (.getstatic 78, 3) := by decide +kernel
theorem dX4_set_24 : decode cX4_set 24 = .ok (.iload_n 1, 1) := by decide +kernel
theorem dX4_set_25 : decode cX4_set 25 = .ok (.iaload, 1) := by decide +kernel
theorem dX4_set_26 : decode cX4_set 26 = .ok (.if_icmp .le 6, 3) := by decide +kernel
theorem dX4_set_29 : decode cX4_set 29 = .ok (.bipush (-2), 2) := by decide +kernel
theorem dX4_set_31 : decode cX4_set 31 = .ok (.ireturn, 1) := by decide +kernel
theorem dX4_set_32 : decode cX4_set 32 = .ok (.aload_n 0, 1) := by decide +kernel
theorem dX4_set_33 : decode cX4_set 33 = .ok (.getfield 12, 3) := by decide +kernel
theorem dX4_set_36 : decode cX4_set 36 = .ok (.iload_n 1, 1) := by decide +kernel
theorem dX4_set_37 : decode cX4_set 37 = .ok (.invokevirtual 81, 3) := by decide +kernel
theorem dX4_set_40 : decode cX4_set 40 = .ok (.istore_n 3, 1) := by decide +kernel
theorem dX4_set_41 : decode cX4_set 41 = .ok (.iload_n 2, 1) := by decide +kernel
theorem dX4_set_42 : decode cX4_set 42 = .ok (.iload_n 3, 1) := by decide +kernel
theorem dX4_set_43 : decode cX4_set 43 = .ok (.if_icmp .ne 6, 3) := by decide +kernel
theorem dX4_set_46 : decode cX4_set 46 = .ok (.bipush (-5), 2) := by decide +kernel
theorem dX4_set_48 : decode cX4_set 48 = .ok (.ireturn, 1) := by decide +kernel
theorem dX4_set_49 : decode cX4_set 49 = .ok (.aload_n 0, 1) := by decide +kernel
theorem dX4_set_50 : decode cX4_set 50 = .ok (.getfield 36, 3) := by decide +kernel
theorem dX4_set_53 : decode cX4_set 53 = .ok (.aload_n 0, 1) := by decide +kernel
theorem dX4_set_54 : decode cX4_set 54 = .ok (.getfield 12, 3) := by decide +kernel
theorem dX4_set_57 : decode cX4_set 57 = .ok (.invokevirtual 51, 3) := by decide +kernel
theorem dX4_set_60 : decode cX4_set 60 = .ok (.aload_n 0, 1) := by decide +kernel
theorem dX4_set_61 : decode cX4_set 61 = .ok (.getfield 12, 3) := by decide +kernel
theorem dX4_set_64 : decode cX4_set 64 = .ok (.iload_n 1, 1) := by decide +kernel
theorem dX4_set_65 : decode cX4_set 65 = .ok (.iload_n 2, 1) := by decide +kernel
theorem dX4_set_66 : decode cX4_set 66 = .ok (.invokevirtual 85, 3) := by decide +kernel
theorem dX4_set_69 : decode cX4_set 69 = .ok (.iload_n 3, 1) := by decide +kernel
theorem dX4_set_70 : decode cX4_set 70 = .ok (.ireturn, 1) := by decide +kernel
set_option maxRecDepth 20000 in
theorem ggX4_learn_X2_learnedLength : GoodIn wsX4_learn wsX2_learnedLength := goodIn_r _ [7, 8, 9, 10, 6, 11, 12, 13, 14, 15, 16, 17, 18, 19, 20, 21, 22, 23, 24, 25, 26, 27, 28, 29, 30, 31, 32, 33, 69, 70, 71, 72, 73] (by decide +kernel) (by decide +kernel)
set_option maxRecDepth 20000 in
theorem gX4_learn_X2_learnedLength : GoodIn wsX4_learn (wsV RX4 89 RX2 yX2_learnedLength wsX2_learnedLength) := goodIn_app (goodIn_of _ (by decide +kernel)) ggX4_learn_X2_learnedLength
set_option maxRecDepth 20000 in
theorem ggX4_learn_X2_setting : GoodIn wsX4_learn wsX2_setting := goodIn_r _ [37, 38, 69, 70, 71, 72, 73] (by decide +kernel) (by decide +kernel)
set_option maxRecDepth 20000 in
theorem gX4_learn_X2_setting : GoodIn wsX4_learn (wsV RX4 81 RX2 yX2_setting wsX2_setting) := goodIn_app (goodIn_of _ (by decide +kernel)) ggX4_learn_X2_setting
set_option maxRecDepth 20000 in
theorem ggX4_learn_X0_remember : GoodIn wsX4_learn wsX0_remember := goodIn_r _ [43, 44, 45, 46, 47, 48, 42, 49, 50, 51, 52, 6, 53, 26, 54, 55, 56, 57, 58, 38, 12, 59, 74, 75, 76, 77, 69, 70, 71, 72, 73] (by decide +kernel) (by decide +kernel)
set_option maxRecDepth 20000 in
theorem gX4_learn_X0_remember : GoodIn wsX4_learn (wsV RX4 51 RX0 yX0_remember wsX0_remember) := goodIn_app (goodIn_of _ (by decide +kernel)) ggX4_learn_X0_remember
set_option maxRecDepth 20000 in
theorem ggX4_learn_X2_change : GoodIn wsX4_learn wsX2_change := goodIn_r _ [63, 38, 69, 70, 71, 72, 73] (by decide +kernel) (by decide +kernel)
set_option maxRecDepth 20000 in
theorem gX4_learn_X2_change : GoodIn wsX4_learn (wsV RX4 85 RX2 yX2_change wsX2_change) := goodIn_app (goodIn_of _ (by decide +kernel)) ggX4_learn_X2_change
theorem dX4_learn_0 : decode cX4_learn 0 = .ok (.aload_n 0, 1) := by decide +kernel
theorem dX4_learn_1 : decode cX4_learn 1 = .ok (.getfield 12, 3) := by decide +kernel
theorem dX4_learn_4 : decode cX4_learn 4 = .ok (.invokevirtual 89, 3) := by decide +kernel
theorem dX4_learn_7 : decode cX4_learn 7 = .ok (.istore_n 1, 1) := by decide +kernel
theorem dX4_learn_8 : decode cX4_learn 8 = .ok (.iload_n 1, 1) := by decide +kernel
theorem dX4_learn_9 : decode cX4_learn 9 = .ok (.bipush (-5), 2) := by decide +kernel
theorem dX4_learn_11 : decode cX4_learn 11 = .ok (.if_icmp .eq 15, 3) := by decide +kernel
theorem dX4_learn_14 : decode cX4_learn 14 = .ok (.iload_n 1, 1) := by decide +kernel
theorem dX4_learn_15 : decode cX4_learn 15 = .ok (.aload_n 0, 1) := by decide +kernel
theorem dX4_learn_16 : decode cX4_learn 16 = .ok (.getfield 12, 3) := by decide +kernel
theorem dX4_learn_19 : decode cX4_learn 19 = .ok (.iconst 1, 1) := by decide +kernel
theorem dX4_learn_20 : decode cX4_learn 20 = .ok (.invokevirtual 81, 3) := by decide +kernel
theorem dX4_learn_23 : decode cX4_learn 23 = .ok (.if_icmp .ne 6, 3) := by decide +kernel
theorem dX4_learn_26 : decode cX4_learn 26 = .ok (.bipush (-5), 2) := by decide +kernel
theorem dX4_learn_28 : decode cX4_learn 28 = .ok (.ireturn, 1) := by decide +kernel
theorem dX4_learn_29 : decode cX4_learn 29 = .ok (.aload_n 0, 1) := by decide +kernel
theorem dX4_learn_30 : decode cX4_learn 30 = .ok (.getfield 36, 3) := by decide +kernel
theorem dX4_learn_33 : decode cX4_learn 33 = .ok (.aload_n 0, 1) := by decide +kernel
theorem dX4_learn_34 : decode cX4_learn 34 = .ok (.getfield 12, 3) := by decide +kernel
theorem dX4_learn_37 : decode cX4_learn 37 = .ok (.invokevirtual 51, 3) := by decide +kernel
theorem dX4_learn_40 : decode cX4_learn 40 = .ok (.aload_n 0, 1) := by decide +kernel
theorem dX4_learn_41 : decode cX4_learn 41 = .ok (.getfield 12, 3) := by decide +kernel
theorem dX4_learn_44 : decode cX4_learn 44 = .ok (.iconst 1, 1) := by decide +kernel
theorem dX4_learn_45 : decode cX4_learn 45 = .ok (.iload_n 1, 1) := by decide +kernel
theorem dX4_learn_46 : decode cX4_learn 46 = .ok (.invokevirtual 85, 3) := by decide +kernel
theorem dX4_learn_49 : decode cX4_learn 49 = .ok (.iload_n 1, 1) := by decide +kernel
theorem dX4_learn_50 : decode cX4_learn 50 = .ok (.ireturn, 1) := by decide +kernel
set_option maxRecDepth 20000 in
theorem ggX4_type_X3_append : GoodIn wsX4_type wsX3_append := goodIn_r _ [6, 7, 8, 18, 19, 20, 21, 22] (by decide +kernel) (by decide +kernel)
set_option maxRecDepth 20000 in
theorem gX4_type_X3_append : GoodIn wsX4_type (wsV RX4 92 RX3 yX3_append wsX3_append) := goodIn_app (goodIn_of _ (by decide +kernel)) ggX4_type_X3_append
set_option maxRecDepth 20000 in
theorem ggX4_type_X3_length : GoodIn wsX4_type wsX3_length := goodIn_r _ [12, 7, 18, 19, 20, 21, 22] (by decide +kernel) (by decide +kernel)
set_option maxRecDepth 20000 in
theorem gX4_type_X3_length : GoodIn wsX4_type (wsV RX4 96 RX3 yX3_length wsX3_length) := goodIn_app (goodIn_of _ (by decide +kernel)) ggX4_type_X3_length
theorem dX4_type_0 : decode cX4_type 0 = .ok (.aload_n 0, 1) := by decide +kernel
theorem dX4_type_1 : decode cX4_type 1 = .ok (.getfield 29, 3) := by decide +kernel
theorem dX4_type_4 : decode cX4_type 4 = .ok (.iload_n 1, 1) := by decide +kernel
theorem dX4_type_5 : decode cX4_type 5 = .ok (.invokevirtual 92, 3) := by decide +kernel
theorem dX4_type_8 : decode cX4_type 8 = .ok (.ifCond .eq 13, 3) := by decide +kernel
theorem dX4_type_11 : decode cX4_type 11 = .ok (.aload_n 0, 1) := by decide +kernel
theorem dX4_type_12 : decode cX4_type 12 = .ok (.getfield 29, 3) := by decide +kernel
theorem dX4_type_15 : decode cX4_type 15 = .ok (.invokevirtual 96, 3) := by decide +kernel
theorem dX4_type_18 : decode cX4_type 18 = .ok (.goto 5, 3) := by decide +kernel
theorem dX4_type_21 : decode cX4_type 21 = .ok (.bipush (-3), 2) := by decide +kernel
theorem dX4_type_23 : decode cX4_type 23 = .ok (.ireturn, 1) := by decide +kernel
set_option maxRecDepth 20000 in
theorem ggX4_clearText_X3_length : GoodIn wsX4_clearText wsX3_length := goodIn_r _ [6, 7, 17, 18, 19, 20, 21] (by decide +kernel) (by decide +kernel)
set_option maxRecDepth 20000 in
theorem gX4_clearText_X3_length : GoodIn wsX4_clearText (wsV RX4 96 RX3 yX3_length wsX3_length) := goodIn_app (goodIn_of _ (by decide +kernel)) ggX4_clearText_X3_length
set_option maxRecDepth 20000 in
theorem ggX4_clearText_X3_empty : GoodIn wsX4_clearText wsX3_empty := goodIn_r _ [11, 7, 17, 18, 19, 20, 21] (by decide +kernel) (by decide +kernel)
set_option maxRecDepth 20000 in
theorem gX4_clearText_X3_empty : GoodIn wsX4_clearText (wsV RX4 99 RX3 yX3_empty wsX3_empty) := goodIn_app (goodIn_of _ (by decide +kernel)) ggX4_clearText_X3_empty
theorem dX4_clearText_0 : decode cX4_clearText 0 = .ok (.aload_n 0, 1) := by decide +kernel
theorem dX4_clearText_1 : decode cX4_clearText 1 = .ok (.getfield 29, 3) := by decide +kernel
theorem dX4_clearText_4 : decode cX4_clearText 4 = .ok (.invokevirtual 96, 3) := by decide +kernel
theorem dX4_clearText_7 : decode cX4_clearText 7 = .ok (.istore_n 1, 1) := by decide +kernel
theorem dX4_clearText_8 : decode cX4_clearText 8 = .ok (.aload_n 0, 1) := by decide +kernel
theorem dX4_clearText_9 : decode cX4_clearText 9 = .ok (.getfield 29, 3) := by decide +kernel
theorem dX4_clearText_12 : decode cX4_clearText 12 = .ok (.invokevirtual 99, 3) := by decide +kernel
theorem dX4_clearText_15 : decode cX4_clearText 15 = .ok (.iload_n 1, 1) := by decide +kernel
theorem dX4_clearText_16 : decode cX4_clearText 16 = .ok (.ireturn, 1) := by decide +kernel
set_option maxRecDepth 20000 in
theorem ggX4_perform_X3_fault : GoodIn wsX4_perform wsX3_fault := goodIn_r _ [9, 10, 11, 12, 13, 8, 14, 15, 16, 17, 18, 19, 20, 21, 22, 23, 24, 25, 26, 27, 28, 29, 30, 31, 32, 33, 34, 35, 36, 143, 144, 145, 146, 147] (by decide +kernel) (by decide +kernel)
set_option maxRecDepth 20000 in
theorem gX4_perform_X3_fault : GoodIn wsX4_perform (wsV RX4 102 RX3 yX3_fault wsX3_fault) := goodIn_app (goodIn_of _ (by decide +kernel)) ggX4_perform_X3_fault
set_option maxRecDepth 20000 in
theorem ggX4_perform_X2_copyFrom : GoodIn wsX4_perform wsX2_copyFrom := goodIn_r _ [41, 42, 43, 44, 45, 46, 47, 48, 49, 50, 148, 149, 150, 151, 152] (by decide +kernel) (by decide +kernel)
set_option maxRecDepth 20000 in
theorem gX4_perform_X2_copyFrom : GoodIn wsX4_perform (wsV RX4 105 RX2 yX2_copyFrom wsX2_copyFrom) := goodIn_app (goodIn_of _ (by decide +kernel)) ggX4_perform_X2_copyFrom
set_option maxRecDepth 20000 in
theorem ggX4_perform_X3_sendTo : GoodIn wsX4_perform wsX3_sendTo := goodIn_r _ [54, 55, 56, 10, 11, 12, 13, 8, 14, 15, 57, 58, 59, 60, 61, 62, 28, 29, 30, 25, 26, 27, 63, 64, 65, 66, 67, 68, 69, 70, 22, 23, 24, 71, 72, 73, 74, 75, 76, 77, 40, 78, 49, 79, 80, 81, 82, 83, 84, 85, 86, 87, 88, 89, 90, 42, 91, 92, 93, 94, 95, 50, 48, 47, 96, 97, 98, 99, 100, 101, 102, 103, 104, 105, 106, 107, 108, 109, 110, 111, 112, 113, 114, 115, 116, 117, 118, 119, 120, 121, 143, 144, 145, 146, 147, 148, 149, 150, 151, 152] (by decide +kernel) (by decide +kernel)
set_option maxRecDepth 20000 in
theorem gX4_perform_X3_sendTo : GoodIn wsX4_perform (wsV RX4 108 RX3 yX3_sendTo wsX3_sendTo) := goodIn_app (goodIn_of _ (by decide +kernel)) ggX4_perform_X3_sendTo
set_option maxRecDepth 20000 in
theorem ggX4_perform_X0_remember : GoodIn wsX4_perform wsX0_remember := goodIn_r _ [126, 127, 128, 129, 130, 131, 125, 132, 133, 38, 39, 40, 41, 42, 43, 44, 45, 46, 47, 48, 49, 50, 153, 154, 155, 156, 148, 149, 150, 151, 152] (by decide +kernel) (by decide +kernel)
set_option maxRecDepth 20000 in
theorem gX4_perform_X0_remember : GoodIn wsX4_perform (wsV RX4 51 RX0 yX0_remember wsX0_remember) := goodIn_app (goodIn_of _ (by decide +kernel)) ggX4_perform_X0_remember
set_option maxRecDepth 20000 in
theorem ggX4_perform_X2_end : GoodIn wsX4_perform wsX2_end := goodIn_r _ [137, 49, 148, 149, 150, 151, 152] (by decide +kernel) (by decide +kernel)
set_option maxRecDepth 20000 in
theorem gX4_perform_X2_end : GoodIn wsX4_perform (wsV RX4 58 RX2 yX2_end wsX2_end) := goodIn_app (goodIn_of _ (by decide +kernel)) ggX4_perform_X2_end
theorem dX4_perform_0 : decode cX4_perform 0 = .ok (.aload_n 0, 1) := by decide +kernel
theorem dX4_perform_1 : decode cX4_perform 1 = .ok (.getfield 29, 3) := by decide +kernel
theorem dX4_perform_4 : decode cX4_perform 4 = .ok (.invokevirtual 102, 3) := by decide +kernel
theorem dX4_perform_7 : decode cX4_perform 7 = .ok (.istore_n 1, 1) := by decide +kernel
theorem dX4_perform_8 : decode cX4_perform 8 = .ok (.iload_n 1, 1) := by decide +kernel
theorem dX4_perform_9 : decode cX4_perform 9 = .ok (.bipush (-5), 2) := by decide +kernel
theorem dX4_perform_11 : decode cX4_perform 11 = .ok (.if_icmp .eq 8, 3) := by decide +kernel
theorem dX4_perform_14 : decode cX4_perform 14 = .ok (.bipush (-100), 2) := by decide +kernel
theorem dX4_perform_16 : decode cX4_perform 16 = .ok (.iload_n 1, 1) := by decide +kernel
theorem dX4_perform_17 : decode cX4_perform 17 = .ok (.isub, 1) := by decide +kernel
theorem dX4_perform_18 : decode cX4_perform 18 = .ok (.ireturn, 1) := by decide +kernel
theorem dX4_perform_19 : decode cX4_perform 19 = .ok (.aload_n 0, 1) := by decide +kernel
theorem dX4_perform_20 : decode cX4_perform 20 = .ok (.getfield 16, 3) := by decide +kernel
theorem dX4_perform_23 : decode cX4_perform 23 = .ok (.aload_n 0, 1) := by decide +kernel
theorem dX4_perform_24 : decode cX4_perform 24 = .ok (.getfield 12, 3) := by decide +kernel
theorem dX4_perform_27 : decode cX4_perform 27 = .ok (.invokevirtual 105, 3) := by decide +kernel
theorem dX4_perform_30 : decode cX4_perform 30 = .ok (.aload_n 0, 1) := by decide +kernel
theorem dX4_perform_31 : decode cX4_perform 31 = .ok (.getfield 29, 3) := by decide +kernel
theorem dX4_perform_34 : decode cX4_perform 34 = .ok (.aload_n 0, 1) := by decide +kernel
theorem dX4_perform_35 : decode cX4_perform 35 = .ok (.getfield 16, 3) := by decide +kernel
theorem dX4_perform_38 : decode cX4_perform 38 = .ok (.invokevirtual 108, 3) := by decide +kernel
theorem dX4_perform_41 : decode cX4_perform 41 = .ok (.ifCond .ne 6, 3) := by decide +kernel
theorem dX4_perform_44 : decode cX4_perform 44 = .ok (.bipush (-3), 2) := by decide +kernel
theorem dX4_perform_46 : decode cX4_perform 46 = .ok (.ireturn, 1) := by decide +kernel
theorem dX4_perform_47 : decode cX4_perform 47 = .ok (.aload_n 0, 1) := by decide +kernel
theorem dX4_perform_48 : decode cX4_perform 48 = .ok (.getfield 36, 3) := by decide +kernel
theorem dX4_perform_51 : decode cX4_perform 51 = .ok (.aload_n 0, 1) := by decide +kernel
theorem dX4_perform_52 : decode cX4_perform 52 = .ok (.getfield 12, 3) := by decide +kernel
theorem dX4_perform_55 : decode cX4_perform 55 = .ok (.invokevirtual 51, 3) := by decide +kernel
theorem dX4_perform_58 : decode cX4_perform 58 = .ok (.aload_n 0, 1) := by decide +kernel
theorem dX4_perform_59 : decode cX4_perform 59 = .ok (.getfield 12, 3) := by decide +kernel
theorem dX4_perform_62 : decode cX4_perform 62 = .ok (.aload_n 0, 1) := by decide +kernel
theorem dX4_perform_63 : decode cX4_perform 63 = .ok (.getfield 16, 3) := by decide +kernel
theorem dX4_perform_66 : decode cX4_perform 66 = .ok (.invokevirtual 105, 3) := by decide +kernel
theorem dX4_perform_69 : decode cX4_perform 69 = .ok (.aload_n 0, 1) := by decide +kernel
theorem dX4_perform_70 : decode cX4_perform 70 = .ok (.getfield 12, 3) := by decide +kernel
theorem dX4_perform_73 : decode cX4_perform 73 = .ok (.invokevirtual 58, 3) := by decide +kernel
theorem dX4_perform_76 : decode cX4_perform 76 = .ok (.ireturn, 1) := by decide +kernel
set_option maxRecDepth 20000 in
theorem ggX4_undo_X0_takeBack : GoodIn wsX4_undo wsX0_takeBack := goodIn_r _ [7, 8, 9, 10, 11, 12, 13, 14, 15, 16, 17, 18, 19, 20, 21, 22, 23, 33, 34, 35, 36, 37, 38, 39, 40, 41] (by decide +kernel) (by decide +kernel)
set_option maxRecDepth 20000 in
theorem gX4_undo_X0_takeBack : GoodIn wsX4_undo (wsV RX4 112 RX0 yX0_takeBack wsX0_takeBack) := goodIn_app (goodIn_of _ (by decide +kernel)) ggX4_undo_X0_takeBack
set_option maxRecDepth 20000 in
theorem ggX4_undo_X0_size : GoodIn wsX4_undo wsX0_size := goodIn_r _ [27, 8, 33, 34, 35, 36] (by decide +kernel) (by decide +kernel)
set_option maxRecDepth 20000 in
theorem gX4_undo_X0_size : GoodIn wsX4_undo (wsV RX4 115 RX0 yX0_size wsX0_size) := goodIn_app (goodIn_of _ (by decide +kernel)) ggX4_undo_X0_size
theorem dX4_undo_0 : decode cX4_undo 0 = .ok (.aload_n 0, 1) := by decide +kernel
theorem dX4_undo_1 : decode cX4_undo 1 = .ok (.getfield 36, 3) := by decide +kernel
theorem dX4_undo_4 : decode cX4_undo 4 = .ok (.aload_n 0, 1) := by decide +kernel
theorem dX4_undo_5 : decode cX4_undo 5 = .ok (.getfield 12, 3) := by decide +kernel
theorem dX4_undo_8 : decode cX4_undo 8 = .ok (.invokevirtual 112, 3) := by decide +kernel
theorem dX4_undo_11 : decode cX4_undo 11 = .ok (.ifCond .eq 13, 3) := by decide +kernel
theorem dX4_undo_14 : decode cX4_undo 14 = .ok (.aload_n 0, 1) := by decide +kernel
theorem dX4_undo_15 : decode cX4_undo 15 = .ok (.getfield 36, 3) := by decide +kernel
theorem dX4_undo_18 : decode cX4_undo 18 = .ok (.invokevirtual 115, 3) := by decide +kernel
theorem dX4_undo_21 : decode cX4_undo 21 = .ok (.goto 5, 3) := by decide +kernel
theorem dX4_undo_24 : decode cX4_undo 24 = .ok (.bipush (-5), 2) := by decide +kernel
theorem dX4_undo_26 : decode cX4_undo 26 = .ok (.ireturn, 1) := by decide +kernel
set_option maxRecDepth 20000 in
theorem ggX4_keep_X0_takeSnapshot : GoodIn wsX4_keep wsX0_takeSnapshot := goodIn_r _ [7, 8, 9, 10, 11, 12, 13, 14, 15, 16, 17, 18, 19, 20, 21, 22, 23, 33, 34, 35, 36, 37, 38, 39, 40, 41] (by decide +kernel) (by decide +kernel)
set_option maxRecDepth 20000 in
theorem gX4_keep_X0_takeSnapshot : GoodIn wsX4_keep (wsV RX4 118 RX0 yX0_takeSnapshot wsX0_takeSnapshot) := goodIn_app (goodIn_of _ (by decide +kernel)) ggX4_keep_X0_takeSnapshot
set_option maxRecDepth 20000 in
theorem ggX4_keep_X2_end : GoodIn wsX4_keep wsX2_end := goodIn_r _ [27, 22, 37, 38, 39, 40, 41] (by decide +kernel) (by decide +kernel)
set_option maxRecDepth 20000 in
theorem gX4_keep_X2_end : GoodIn wsX4_keep (wsV RX4 58 RX2 yX2_end wsX2_end) := goodIn_app (goodIn_of _ (by decide +kernel)) ggX4_keep_X2_end
theorem dX4_keep_0 : decode cX4_keep 0 = .ok (.aload_n 0, 1) := by decide +kernel
theorem dX4_keep_1 : decode cX4_keep 1 = .ok (.getfield 36, 3) := by decide +kernel
theorem dX4_keep_4 : decode cX4_keep 4 = .ok (.aload_n 0, 1) := by decide +kernel
theorem dX4_keep_5 : decode cX4_keep 5 = .ok (.getfield 12, 3) := by decide +kernel
theorem dX4_keep_8 : decode cX4_keep 8 = .ok (.invokevirtual 118, 3) := by decide +kernel
theorem dX4_keep_11 : decode cX4_keep 11 = .ok (.aload_n 0, 1) := by decide +kernel
theorem dX4_keep_12 : decode cX4_keep 12 = .ok (.getfield 12, 3) := by decide +kernel
theorem dX4_keep_15 : decode cX4_keep 15 = .ok (.invokevirtual 58, 3) := by decide +kernel
theorem dX4_keep_18 : decode cX4_keep 18 = .ok (.ireturn, 1) := by decide +kernel
set_option maxRecDepth 20000 in
theorem ggX4_restore_X0_hasSnapshot : GoodIn wsX4_restore wsX0_hasSnapshot := goodIn_r _ [7, 8, 47, 48, 49, 50] (by decide +kernel) (by decide +kernel)
set_option maxRecDepth 20000 in
theorem gX4_restore_X0_hasSnapshot : GoodIn wsX4_restore (wsV RX4 121 RX0 yX0_hasSnapshot wsX0_hasSnapshot) := goodIn_app (goodIn_of _ (by decide +kernel)) ggX4_restore_X0_hasSnapshot
set_option maxRecDepth 20000 in
theorem ggX4_restore_X0_remember : GoodIn wsX4_restore wsX0_remember := goodIn_r _ [12, 13, 14, 15, 16, 17, 6, 18, 19, 20, 21, 22, 23, 24, 25, 26, 27, 28, 29, 30, 31, 32, 47, 48, 49, 50, 51, 52, 53, 54, 55] (by decide +kernel) (by decide +kernel)
set_option maxRecDepth 20000 in
theorem gX4_restore_X0_remember : GoodIn wsX4_restore (wsV RX4 51 RX0 yX0_remember wsX0_remember) := goodIn_app (goodIn_of _ (by decide +kernel)) ggX4_restore_X0_remember
set_option maxRecDepth 20000 in
theorem ggX4_restore_X0_copySnapshotTo : GoodIn wsX4_restore wsX0_copySnapshotTo := goodIn_r _ [36, 37, 19, 20, 21, 22, 23, 24, 25, 26, 27, 28, 29, 30, 31, 32, 47, 48, 49, 50, 51, 52, 53, 54, 55] (by decide +kernel) (by decide +kernel)
set_option maxRecDepth 20000 in
theorem gX4_restore_X0_copySnapshotTo : GoodIn wsX4_restore (wsV RX4 125 RX0 yX0_copySnapshotTo wsX0_copySnapshotTo) := goodIn_app (goodIn_of _ (by decide +kernel)) ggX4_restore_X0_copySnapshotTo
set_option maxRecDepth 20000 in
theorem ggX4_restore_X2_end : GoodIn wsX4_restore wsX2_end := goodIn_r _ [41, 31, 51, 52, 53, 54, 55] (by decide +kernel) (by decide +kernel)
set_option maxRecDepth 20000 in
theorem gX4_restore_X2_end : GoodIn wsX4_restore (wsV RX4 58 RX2 yX2_end wsX2_end) := goodIn_app (goodIn_of _ (by decide +kernel)) ggX4_restore_X2_end
theorem dX4_restore_0 : decode cX4_restore 0 = .ok (.aload_n 0, 1) := by decide +kernel
theorem dX4_restore_1 : decode cX4_restore 1 = .ok (.getfield 36, 3) := by decide +kernel
theorem dX4_restore_4 : decode cX4_restore 4 = .ok (.invokevirtual 121, 3) := by decide +kernel
theorem dX4_restore_7 : decode cX4_restore 7 = .ok (.ifCond .ne 6, 3) := by decide +kernel
theorem dX4_restore_10 : decode cX4_restore 10 = .ok (.bipush (-5), 2) := by decide +kernel
theorem dX4_restore_12 : decode cX4_restore 12 = .ok (.ireturn, 1) := by decide +kernel
theorem dX4_restore_13 : decode cX4_restore 13 = .ok (.aload_n 0, 1) := by decide +kernel
theorem dX4_restore_14 : decode cX4_restore 14 = .ok (.getfield 36, 3) := by decide +kernel
theorem dX4_restore_17 : decode cX4_restore 17 = .ok (.aload_n 0, 1) := by decide +kernel
theorem dX4_restore_18 : decode cX4_restore 18 = .ok (.getfield 12, 3) := by decide +kernel
theorem dX4_restore_21 : decode cX4_restore 21 = .ok (.invokevirtual 51, 3) := by decide +kernel
theorem dX4_restore_24 : decode cX4_restore 24 = .ok (.aload_n 0, 1) := by decide +kernel
theorem dX4_restore_25 : decode cX4_restore 25 = .ok (.getfield 36, 3) := by decide +kernel
theorem dX4_restore_28 : decode cX4_restore 28 = .ok (.aload_n 0, 1) := by decide +kernel
theorem dX4_restore_29 : decode cX4_restore 29 = .ok (.getfield 12, 3) := by decide +kernel
theorem dX4_restore_32 : decode cX4_restore 32 = .ok (.invokevirtual 125, 3) := by decide +kernel
theorem dX4_restore_35 : decode cX4_restore 35 = .ok (.aload_n 0, 1) := by decide +kernel
theorem dX4_restore_36 : decode cX4_restore 36 = .ok (.getfield 12, 3) := by decide +kernel
theorem dX4_restore_39 : decode cX4_restore 39 = .ok (.invokevirtual 58, 3) := by decide +kernel
theorem dX4_restore_42 : decode cX4_restore 42 = .ok (.ireturn, 1) := by decide +kernel
set_option maxRecDepth 20000 in
theorem ggX4_level_X2_levelAt : GoodIn wsX4_level wsX2_levelAt := goodIn_r _ [6, 7, 8, 14, 15, 16, 17, 18] (by decide +kernel) (by decide +kernel)
set_option maxRecDepth 20000 in
theorem gX4_level_X2_levelAt : GoodIn wsX4_level (wsV RX4 128 RX2 yX2_levelAt wsX2_levelAt) := goodIn_app (goodIn_of _ (by decide +kernel)) ggX4_level_X2_levelAt
theorem dX4_level_0 : decode cX4_level 0 = .ok (.iload_n 1, 1) := by decide +kernel
theorem dX4_level_1 : decode cX4_level 1 = .ok (.ifCond .ge 8, 3) := by decide +kernel
theorem dX4_level_4 : decode cX4_level 4 = .ok (.bipush (-2), 2) := by decide +kernel
theorem dX4_level_6 : decode cX4_level 6 = .ok (.goto 11, 3) := by decide +kernel
theorem dX4_level_9 : decode cX4_level 9 = .ok (.aload_n 0, 1) := by decide +kernel
theorem dX4_level_10 : decode cX4_level 10 = .ok (.getfield 12, 3) := by decide +kernel
theorem dX4_level_13 : decode cX4_level 13 = .ok (.iload_n 1, 1) := by decide +kernel
theorem dX4_level_14 : decode cX4_level 14 = .ok (.invokevirtual 128, 3) := by decide +kernel
theorem dX4_level_17 : decode cX4_level 17 = .ok (.ireturn, 1) := by decide +kernel
set_option maxRecDepth 20000 in
theorem ggX4_fall_X2_fallOfRank : GoodIn wsX4_fall wsX2_fallOfRank := goodIn_r _ [6, 7, 8, 9, 10, 5, 11, 12, 13, 14, 15, 16, 17, 18, 19, 20, 21, 22, 23, 24, 25, 26, 27, 28, 34, 35, 36, 37, 38] (by decide +kernel) (by decide +kernel)
set_option maxRecDepth 20000 in
theorem gX4_fall_X2_fallOfRank : GoodIn wsX4_fall (wsV RX4 131 RX2 yX2_fallOfRank wsX2_fallOfRank) := goodIn_app (goodIn_of _ (by decide +kernel)) ggX4_fall_X2_fallOfRank
theorem dX4_fall_0 : decode cX4_fall 0 = .ok (.iload_n 1, 1) := by decide +kernel
theorem dX4_fall_1 : decode cX4_fall 1 = .ok (.ifCond .ge 8, 3) := by decide +kernel
theorem dX4_fall_4 : decode cX4_fall 4 = .ok (.bipush (-2), 2) := by decide +kernel
theorem dX4_fall_6 : decode cX4_fall 6 = .ok (.goto 11, 3) := by decide +kernel
theorem dX4_fall_9 : decode cX4_fall 9 = .ok (.aload_n 0, 1) := by decide +kernel
theorem dX4_fall_10 : decode cX4_fall 10 = .ok (.getfield 12, 3) := by decide +kernel
theorem dX4_fall_13 : decode cX4_fall 13 = .ok (.iload_n 1, 1) := by decide +kernel
theorem dX4_fall_14 : decode cX4_fall 14 = .ok (.invokevirtual 131, 3) := by decide +kernel
theorem dX4_fall_17 : decode cX4_fall 17 = .ok (.ireturn, 1) := by decide +kernel
set_option maxRecDepth 20000 in
theorem ggX4_sent_X2_wordOfRank : GoodIn wsX4_sent wsX2_wordOfRank := goodIn_r _ [6, 7, 8, 14, 15, 16, 17, 18] (by decide +kernel) (by decide +kernel)
set_option maxRecDepth 20000 in
theorem gX4_sent_X2_wordOfRank : GoodIn wsX4_sent (wsV RX4 134 RX2 yX2_wordOfRank wsX2_wordOfRank) := goodIn_app (goodIn_of _ (by decide +kernel)) ggX4_sent_X2_wordOfRank
theorem dX4_sent_0 : decode cX4_sent 0 = .ok (.iload_n 1, 1) := by decide +kernel
theorem dX4_sent_1 : decode cX4_sent 1 = .ok (.ifCond .ge 8, 3) := by decide +kernel
theorem dX4_sent_4 : decode cX4_sent 4 = .ok (.bipush (-2), 2) := by decide +kernel
theorem dX4_sent_6 : decode cX4_sent 6 = .ok (.goto 11, 3) := by decide +kernel
theorem dX4_sent_9 : decode cX4_sent 9 = .ok (.aload_n 0, 1) := by decide +kernel
theorem dX4_sent_10 : decode cX4_sent 10 = .ok (.getfield 12, 3) := by decide +kernel
theorem dX4_sent_13 : decode cX4_sent 13 = .ok (.iload_n 1, 1) := by decide +kernel
theorem dX4_sent_14 : decode cX4_sent 14 = .ok (.invokevirtual 134, 3) := by decide +kernel
theorem dX4_sent_17 : decode cX4_sent 17 = .ok (.ireturn, 1) := by decide +kernel
set_option maxRecDepth 20000 in
theorem ggX4_received_X2_setting : GoodIn wsX4_received wsX2_setting := goodIn_r _ [7, 8, 89, 90, 91, 92, 93] (by decide +kernel) (by decide +kernel)
set_option maxRecDepth 20000 in
theorem gX4_received_X2_setting : GoodIn wsX4_received (wsV RX4 81 RX2 yX2_setting wsX2_setting) := goodIn_app (goodIn_of _ (by decide +kernel)) ggX4_received_X2_setting
set_option maxRecDepth 20000 in
theorem ggX4_received_X1_receive : GoodIn wsX4_received wsX1_receive := goodIn_r _ [13, 14, 15, 16, 17, 18, 6, 19, 20, 21, 22, 23, 24, 25, 26, 27, 28, 29, 30, 31, 32, 33, 34, 35, 36, 37, 38, 39, 40, 41, 42, 43, 44, 12, 45, 46, 47, 48, 49, 50, 51, 52, 53, 54, 55, 56, 57, 58, 4, 5, 7, 8, 59, 60, 61, 62, 63, 64, 65, 66, 67, 68, 69, 70, 71, 72, 73, 74, 75, 76, 77, 78, 79, 94, 95, 96, 97, 89, 90, 91, 92, 93] (by decide +kernel) (by decide +kernel)
set_option maxRecDepth 20000 in
theorem gX4_received_X1_receive : GoodIn wsX4_received (wsV RX4 137 RX1 yX1_receive wsX1_receive) := goodIn_app (goodIn_of _ (by decide +kernel)) ggX4_received_X1_receive
set_option maxRecDepth 20000 in
theorem ggX4_received_X1_note : GoodIn wsX4_received wsX1_note := goodIn_r _ [83, 14, 79, 94, 95, 96, 97] (by decide +kernel) (by decide +kernel)
set_option maxRecDepth 20000 in
theorem gX4_received_X1_note : GoodIn wsX4_received (wsV RX4 141 RX1 yX1_note wsX1_note) := goodIn_app (goodIn_of _ (by decide +kernel)) ggX4_received_X1_note
theorem dX4_received_0 : decode cX4_received 0 = .ok (.iload_n 1, 1) := by decide +kernel
theorem dX4_received_1 : decode cX4_received 1 = .ok (.ifCond .lt 12, 3) := by decide +kernel
theorem dX4_received_4 : decode cX4_received 4 = .ok (.iload_n 2, 1) := by decide +kernel
theorem dX4_received_5 : decode cX4_received 5 = .ok (.ifCond .lt 8, 3) := by decide +kernel
theorem dX4_received_8 : decode cX4_received 8 = .ok (.iload_n 2, 1) := by decide +kernel
theorem dX4_received_9 : decode cX4_received 9 = .ok (.iconst 5, 1) := by decide +kernel
theorem dX4_received_10 : decode cX4_received 10 = .ok (.if_icmp .lt 6, 3) := by decide +kernel
theorem dX4_received_13 : decode cX4_received 13 = .ok (.bipush (-2), 2) := by decide +kernel
theorem dX4_received_15 : decode cX4_received 15 = .ok (.ireturn, 1) := by decide +kernel
theorem dX4_received_16 : decode cX4_received 16 = .ok (.aload_n 0, 1) := by decide +kernel
theorem dX4_received_17 : decode cX4_received 17 = .ok (.getfield 22, 3) := by decide +kernel
theorem dX4_received_20 : decode cX4_received 20 = .ok (.aload_n 0, 1) := by decide +kernel
theorem dX4_received_21 : decode cX4_received 21 = .ok (.getfield 12, 3) := by decide +kernel
theorem dX4_received_24 : decode cX4_received 24 = .ok (.aload_n 0, 1) := by decide +kernel
theorem dX4_received_25 : decode cX4_received 25 = .ok (.getfield 12, 3) := by decide +kernel
theorem dX4_received_28 : decode cX4_received 28 = .ok (.iconst 1, 1) := by decide +kernel
theorem dX4_received_29 : decode cX4_received 29 = .ok (.invokevirtual 81, 3) := by decide +kernel
theorem dX4_received_32 : decode cX4_received 32 = .ok (.invokevirtual 137, 3) := by decide +kernel
theorem dX4_received_35 : decode cX4_received 35 = .ok (.aload_n 0, 1) := by decide +kernel
theorem dX4_received_36 : decode cX4_received 36 = .ok (.getfield 22, 3) := by decide +kernel
theorem dX4_received_39 : decode cX4_received 39 = .ok (.iload_n 1, 1) := by decide +kernel
theorem dX4_received_40 : decode cX4_received 40 = .ok (.iload_n 2, 1) := by decide +kernel
theorem dX4_received_41 : decode cX4_received 41 = .ok (.invokevirtual 141, 3) := by decide +kernel
theorem dX4_received_44 : decode cX4_received 44 = .ok (.ireturn, 1) := by decide +kernel
set_option maxRecDepth 20000 in
theorem ggX4_total_X2_setting : GoodIn wsX4_total wsX2_setting := goodIn_r _ [8, 9, 160, 161, 162, 163, 164] (by decide +kernel) (by decide +kernel)
set_option maxRecDepth 20000 in
theorem gX4_total_X2_setting : GoodIn wsX4_total (wsV RX4 81 RX2 yX2_setting wsX2_setting) := goodIn_app (goodIn_of _ (by decide +kernel)) ggX4_total_X2_setting
set_option maxRecDepth 20000 in
theorem ggX4_total_X2_end : GoodIn wsX4_total wsX2_end := goodIn_r _ [13, 14, 160, 161, 162, 163, 164] (by decide +kernel) (by decide +kernel)
set_option maxRecDepth 20000 in
theorem gX4_total_X2_end : GoodIn wsX4_total (wsV RX4 58 RX2 yX2_end wsX2_end) := goodIn_app (goodIn_of _ (by decide +kernel)) ggX4_total_X2_end
set_option maxRecDepth 20000 in
theorem ggX4_total_X2_wordCount : GoodIn wsX4_total wsX2_wordCount := goodIn_r _ [18, 19, 160, 161, 162, 163, 164] (by decide +kernel) (by decide +kernel)
set_option maxRecDepth 20000 in
theorem gX4_total_X2_wordCount : GoodIn wsX4_total (wsV RX4 144 RX2 yX2_wordCount wsX2_wordCount) := goodIn_app (goodIn_of _ (by decide +kernel)) ggX4_total_X2_wordCount
set_option maxRecDepth 20000 in
theorem ggX4_total_X2_countFalls : GoodIn wsX4_total wsX2_countFalls := goodIn_r _ [23, 24, 25, 26, 7, 27, 28, 29, 30, 31, 32, 33, 34, 35, 36, 160, 161, 162, 163, 164] (by decide +kernel) (by decide +kernel)
set_option maxRecDepth 20000 in
theorem gX4_total_X2_countFalls : GoodIn wsX4_total (wsV RX4 147 RX2 yX2_countFalls wsX2_countFalls) := goodIn_app (goodIn_of _ (by decide +kernel)) ggX4_total_X2_countFalls
set_option maxRecDepth 20000 in
theorem ggX4_total_X2_countLowTicks : GoodIn wsX4_total wsX2_countLowTicks := goodIn_r _ [40, 28, 29, 30, 31, 32, 33, 34, 35, 36, 160, 161, 162, 163, 164] (by decide +kernel) (by decide +kernel)
set_option maxRecDepth 20000 in
theorem gX4_total_X2_countLowTicks : GoodIn wsX4_total (wsV RX4 150 RX2 yX2_countLowTicks wsX2_countLowTicks) := goodIn_app (goodIn_of _ (by decide +kernel)) ggX4_total_X2_countLowTicks
set_option maxRecDepth 20000 in
theorem ggX4_total_X2_learnedLength : GoodIn wsX4_total wsX2_learnedLength := goodIn_r _ [44, 45, 46, 47, 7, 48, 14, 49, 50, 51, 52, 53, 54, 55, 56, 29, 24, 25, 26, 27, 28, 30, 31, 32, 33, 34, 35, 36, 160, 161, 162, 163, 164] (by decide +kernel) (by decide +kernel)
set_option maxRecDepth 20000 in
theorem gX4_total_X2_learnedLength : GoodIn wsX4_total (wsV RX4 89 RX2 yX2_learnedLength wsX2_learnedLength) := goodIn_app (goodIn_of _ (by decide +kernel)) ggX4_total_X2_learnedLength
set_option maxRecDepth 20000 in
theorem ggX4_total_X0_size : GoodIn wsX4_total wsX0_size := goodIn_r _ [61, 62, 165, 166, 167, 168] (by decide +kernel) (by decide +kernel)
set_option maxRecDepth 20000 in
theorem gX4_total_X0_size : GoodIn wsX4_total (wsV RX4 115 RX0 yX0_size wsX0_size) := goodIn_app (goodIn_of _ (by decide +kernel)) ggX4_total_X0_size
set_option maxRecDepth 20000 in
theorem ggX4_total_X3_length : GoodIn wsX4_total wsX3_length := goodIn_r _ [67, 68, 169, 170, 171, 172, 173] (by decide +kernel) (by decide +kernel)
set_option maxRecDepth 20000 in
theorem gX4_total_X3_length : GoodIn wsX4_total (wsV RX4 96 RX3 yX3_length wsX3_length) := goodIn_app (goodIn_of _ (by decide +kernel)) ggX4_total_X3_length
set_option maxRecDepth 20000 in
theorem ggX4_total_X4_totalReceived : GoodIn wsX4_total wsX4_totalReceived := goodIn_r _ [73, 74, 1, 4, 5, 6, 7, 8, 9, 75, 76, 77, 78, 79, 80, 81, 82, 50, 51, 52, 53, 54, 55, 56, 29, 14, 24, 25, 26, 27, 28, 30, 31, 32, 33, 34, 35, 36, 83, 11, 12, 13, 84, 85, 86, 87, 88, 89, 90, 91, 92, 93, 94, 95, 96, 97, 98, 99, 100, 101, 102, 103, 104, 105, 106, 107, 72, 108, 109, 110, 111, 112, 113, 114, 115, 116, 117, 118, 119, 120, 121, 122, 123, 124, 125, 126, 127, 128, 129, 130, 131, 132, 133, 134, 135, 136, 137, 138, 139, 140, 141, 142, 143, 144, 145, 16, 17, 18, 19, 146, 147, 148, 149, 150, 151, 152, 153, 154, 155, 156, 157, 158, 159, 160, 161, 162, 163, 164, 174, 175, 176, 177] (by decide +kernel) (by decide +kernel)
set_option maxRecDepth 20000 in
theorem gX4_total_X4_totalReceived : GoodIn wsX4_total (wsV RX4 153 RX4 yX4_totalReceived wsX4_totalReceived) := goodIn_app (goodIn_of _ (by decide +kernel)) ggX4_total_X4_totalReceived
theorem dX4_total_0 : decode cX4_total 0 = .ok (.iload_n 1, 1) := by decide +kernel
theorem dX4_total_1 : decode cX4_total 1 = .ok (.ifCond .lt 9, 3) := by decide +kernel
theorem dX4_total_4 : decode cX4_total 4 = .ok (.iload_n 1, 1) := by decide +kernel
theorem dX4_total_5 : decode cX4_total 5 = .ok (.bipush 19, 2) := by decide +kernel
theorem dX4_total_7 : decode cX4_total 7 = .ok (.if_icmp .le 6, 3) := by decide +kernel
theorem dX4_total_10 : decode cX4_total 10 = .ok (.bipush (-2), 2) := by decide +kernel
theorem dX4_total_12 : decode cX4_total 12 = .ok (.ireturn, 1) := by decide +kernel
theorem dX4_total_13 : decode cX4_total 13 = .ok (.iload_n 1, 1) := by decide +kernel
theorem dX4_total_14 : decode cX4_total 14 = .ok (.iconst 5, 1) := by decide +kernel
theorem dX4_total_15 : decode cX4_total 15 = .ok (.if_icmp .ge 12, 3) := by decide +kernel
theorem dX4_total_18 : decode cX4_total 18 = .ok (.aload_n 0, 1) := by decide +kernel
theorem dX4_total_19 : decode cX4_total 19 = .ok (.getfield 12, 3) := by decide +kernel
theorem dX4_total_22 : decode cX4_total 22 = .ok (.iload_n 1, 1) := by decide +kernel
theorem dX4_total_23 : decode cX4_total 23 = .ok (.invokevirtual 81, 3) := by decide +kernel
theorem dX4_total_26 : decode cX4_total 26 = .ok (.ireturn, 1) := by decide +kernel
theorem dX4_total_27 : decode cX4_total 27 = .ok (.iload_n 1, 1) := by decide +kernel
theorem dX4_total_28 : decode cX4_total 28 = .ok (.tableswitch 132 5 19 #[76, 84, 132, 132, 132, 132, 132, 132, 132, 132, 92, 100, 108, 116, 124], 76) := by decide +kernel
theorem dX4_total_104 : decode cX4_total 104 = .ok (.aload_n 0, 1) := by decide +kernel
theorem dX4_total_105 : decode cX4_total 105 = .ok (.getfield 12, 3) := by decide +kernel
theorem dX4_total_108 : decode cX4_total 108 = .ok (.invokevirtual 58, 3) := by decide +kernel
theorem dX4_total_111 : decode cX4_total 111 = .ok (.ireturn, 1) := by decide +kernel
theorem dX4_total_112 : decode cX4_total 112 = .ok (.aload_n 0, 1) := by decide +kernel
theorem dX4_total_113 : decode cX4_total 113 = .ok (.getfield 12, 3) := by decide +kernel
theorem dX4_total_116 : decode cX4_total 116 = .ok (.invokevirtual 144, 3) := by decide +kernel
theorem dX4_total_119 : decode cX4_total 119 = .ok (.ireturn, 1) := by decide +kernel
theorem dX4_total_120 : decode cX4_total 120 = .ok (.aload_n 0, 1) := by decide +kernel
theorem dX4_total_121 : decode cX4_total 121 = .ok (.getfield 12, 3) := by decide +kernel
theorem dX4_total_124 : decode cX4_total 124 = .ok (.invokevirtual 147, 3) := by decide +kernel
theorem dX4_total_127 : decode cX4_total 127 = .ok (.ireturn, 1) := by decide +kernel
theorem dX4_total_128 : decode cX4_total 128 = .ok (.aload_n 0, 1) := by decide +kernel
theorem dX4_total_129 : decode cX4_total 129 = .ok (.getfield 12, 3) := by decide +kernel
theorem dX4_total_132 : decode cX4_total 132 = .ok (.invokevirtual 150, 3) := by decide +kernel
theorem dX4_total_135 : decode cX4_total 135 = .ok (.ireturn, 1) := by decide +kernel
theorem dX4_total_136 : decode cX4_total 136 = .ok (.aload_n 0, 1) := by decide +kernel
theorem dX4_total_137 : decode cX4_total 137 = .ok (.getfield 12, 3) := by decide +kernel
theorem dX4_total_140 : decode cX4_total 140 = .ok (.invokevirtual 89, 3) := by decide +kernel
theorem dX4_total_143 : decode cX4_total 143 = .ok (.ireturn, 1) := by decide +kernel
theorem dX4_total_144 : decode cX4_total 144 = .ok (.aload_n 0, 1) := by decide +kernel
theorem dX4_total_145 : decode cX4_total 145 = .ok (.getfield 36, 3) := by decide +kernel
theorem dX4_total_148 : decode cX4_total 148 = .ok (.invokevirtual 115, 3) := by decide +kernel
theorem dX4_total_151 : decode cX4_total 151 = .ok (.ireturn, 1) := by decide +kernel
theorem dX4_total_152 : decode cX4_total 152 = .ok (.aload_n 0, 1) := by decide +kernel
theorem dX4_total_153 : decode cX4_total 153 = .ok (.getfield 29, 3) := by decide +kernel
theorem dX4_total_156 : decode cX4_total 156 = .ok (.invokevirtual 96, 3) := by decide +kernel
theorem dX4_total_159 : decode cX4_total 159 = .ok (.ireturn, 1) := by decide +kernel
theorem dX4_total_160 : decode cX4_total 160 = .ok (.aload_n 0, 1) := by decide +kernel
theorem dX4_total_161 : decode cX4_total 161 = .ok (.iload_n 1, 1) := by decide +kernel
theorem dX4_total_162 : decode cX4_total 162 = .ok (.invokevirtual 153, 3) := by decide +kernel
theorem dX4_total_165 : decode cX4_total 165 = .ok (.ireturn, 1) := by decide +kernel
set_option maxRecDepth 20000 in
theorem ggX4_ifLength_X1_receive : GoodIn wsX4_ifLength wsX1_receive := goodIn_r _ [7, 8, 9, 10, 11, 12, 13, 14, 15, 16, 17, 18, 19, 20, 21, 22, 23, 24, 25, 26, 27, 28, 29, 30, 31, 32, 33, 34, 35, 36, 37, 38, 39, 6, 40, 41, 42, 43, 44, 45, 46, 47, 48, 49, 50, 51, 52, 53, 54, 55, 56, 57, 58, 59, 60, 61, 62, 63, 64, 65, 66, 67, 68, 69, 70, 71, 72, 73, 74, 75, 76, 77, 78, 118, 119, 120, 121, 122, 123, 124, 125, 126] (by decide +kernel) (by decide +kernel)
set_option maxRecDepth 20000 in
theorem gX4_ifLength_X1_receive : GoodIn wsX4_ifLength (wsV RX4 137 RX1 yX1_receive wsX1_receive) := goodIn_app (goodIn_of _ (by decide +kernel)) ggX4_ifLength_X1_receive
set_option maxRecDepth 20000 in
theorem ggX4_ifLength_X1_count : GoodIn wsX4_ifLength wsX1_count := goodIn_r _ [82, 8, 118, 119, 120, 121] (by decide +kernel) (by decide +kernel)
set_option maxRecDepth 20000 in
theorem gX4_ifLength_X1_count : GoodIn wsX4_ifLength (wsV RX4 156 RX1 yX1_count wsX1_count) := goodIn_app (goodIn_of _ (by decide +kernel)) ggX4_ifLength_X1_count
set_option maxRecDepth 20000 in
theorem ggX4_ifLength_X1_countKind : GoodIn wsX4_ifLength wsX1_countKind := goodIn_r _ [86, 8, 87, 88, 89, 6, 90, 78, 118, 119, 120, 121] (by decide +kernel) (by decide +kernel)
set_option maxRecDepth 20000 in
theorem gX4_ifLength_X1_countKind : GoodIn wsX4_ifLength (wsV RX4 159 RX1 yX1_countKind wsX1_countKind) := goodIn_app (goodIn_of _ (by decide +kernel)) ggX4_ifLength_X1_countKind
set_option maxRecDepth 20000 in
theorem ggX4_ifLength_X1_countDoubtful : GoodIn wsX4_ifLength wsX1_countDoubtful := goodIn_r _ [94, 8, 87, 88, 89, 6, 90, 78, 118, 119, 120, 121] (by decide +kernel) (by decide +kernel)
set_option maxRecDepth 20000 in
theorem gX4_ifLength_X1_countDoubtful : GoodIn wsX4_ifLength (wsV RX4 162 RX1 yX1_countDoubtful wsX1_countDoubtful) := goodIn_app (goodIn_of _ (by decide +kernel)) ggX4_ifLength_X1_countDoubtful
set_option maxRecDepth 20000 in
theorem ggX4_ifLength_X1_isAllWell : GoodIn wsX4_ifLength wsX1_isAllWell := goodIn_r _ [98, 8, 99, 100, 101, 13, 102, 103, 104, 105, 106, 107, 108, 109, 110, 111, 6, 112, 87, 88, 89, 90, 78, 118, 119, 120, 121, 122, 123, 124, 125, 126] (by decide +kernel) (by decide +kernel)
set_option maxRecDepth 20000 in
theorem gX4_ifLength_X1_isAllWell : GoodIn wsX4_ifLength (wsV RX4 165 RX1 yX1_isAllWell wsX1_isAllWell) := goodIn_app (goodIn_of _ (by decide +kernel)) ggX4_ifLength_X1_isAllWell
theorem dX4_ifLength_0 : decode cX4_ifLength 0 = .ok (.iload_n 1, 1) := by decide +kernel
theorem dX4_ifLength_1 : decode cX4_ifLength 1 = .ok (.iconst 4, 1) := by decide +kernel
theorem dX4_ifLength_2 : decode cX4_ifLength 2 = .ok (.if_icmp .lt 18, 3) := by decide +kernel
theorem dX4_ifLength_5 : decode cX4_ifLength 5 = .ok (.iload_n 1, 1) := by decide +kernel
theorem dX4_ifLength_6 : decode cX4_ifLength 6 = .ok (.bipush 40, 2) := by decide +kernel
theorem dX4_ifLength_8 : decode cX4_ifLength 8 = .ok (.if_icmp .gt 12, 3) := by decide +kernel
theorem dX4_ifLength_11 : decode cX4_ifLength 11 = .ok (.iload_n 2, 1) := by decide +kernel
theorem dX4_ifLength_12 : decode cX4_ifLength 12 = .ok (.ifCond .lt 8, 3) := by decide +kernel
theorem dX4_ifLength_15 : decode cX4_ifLength 15 = .ok (.iload_n 2, 1) := by decide +kernel
theorem dX4_ifLength_16 : decode cX4_ifLength 16 = .ok (.iconst 3, 1) := by decide +kernel
theorem dX4_ifLength_17 : decode cX4_ifLength 17 = .ok (.if_icmp .le 6, 3) := by decide +kernel
theorem dX4_ifLength_20 : decode cX4_ifLength 20 = .ok (.bipush (-2), 2) := by decide +kernel
theorem dX4_ifLength_22 : decode cX4_ifLength 22 = .ok (.ireturn, 1) := by decide +kernel
theorem dX4_ifLength_23 : decode cX4_ifLength 23 = .ok (.aload_n 0, 1) := by decide +kernel
theorem dX4_ifLength_24 : decode cX4_ifLength 24 = .ok (.getfield 22, 3) := by decide +kernel
theorem dX4_ifLength_27 : decode cX4_ifLength 27 = .ok (.aload_n 0, 1) := by decide +kernel
theorem dX4_ifLength_28 : decode cX4_ifLength 28 = .ok (.getfield 12, 3) := by decide +kernel
theorem dX4_ifLength_31 : decode cX4_ifLength 31 = .ok (.iload_n 1, 1) := by decide +kernel
theorem dX4_ifLength_32 : decode cX4_ifLength 32 = .ok (.invokevirtual 137, 3) := by decide +kernel
theorem dX4_ifLength_35 : decode cX4_ifLength 35 = .ok (.iload_n 2, 1) := by decide +kernel
theorem dX4_ifLength_36 : decode cX4_ifLength 36 = .ok (.tableswitch 53 0 2 #[28, 36, 45], 28) := by decide +kernel
theorem dX4_ifLength_64 : decode cX4_ifLength 64 = .ok (.aload_n 0, 1) := by decide +kernel
theorem dX4_ifLength_65 : decode cX4_ifLength 65 = .ok (.getfield 22, 3) := by decide +kernel
theorem dX4_ifLength_68 : decode cX4_ifLength 68 = .ok (.invokevirtual 156, 3) := by decide +kernel
theorem dX4_ifLength_71 : decode cX4_ifLength 71 = .ok (.ireturn, 1) := by decide +kernel
theorem dX4_ifLength_72 : decode cX4_ifLength 72 = .ok (.aload_n 0, 1) := by decide +kernel
theorem dX4_ifLength_73 : decode cX4_ifLength 73 = .ok (.getfield 22, 3) := by decide +kernel
theorem dX4_ifLength_76 : decode cX4_ifLength 76 = .ok (.iconst 0, 1) := by decide +kernel
theorem dX4_ifLength_77 : decode cX4_ifLength 77 = .ok (.invokevirtual 159, 3) := by decide +kernel
theorem dX4_ifLength_80 : decode cX4_ifLength 80 = .ok (.ireturn, 1) := by decide +kernel
theorem dX4_ifLength_81 : decode cX4_ifLength 81 = .ok (.aload_n 0, 1) := by decide +kernel
theorem dX4_ifLength_82 : decode cX4_ifLength 82 = .ok (.getfield 22, 3) := by decide +kernel
theorem dX4_ifLength_85 : decode cX4_ifLength 85 = .ok (.invokevirtual 162, 3) := by decide +kernel
theorem dX4_ifLength_88 : decode cX4_ifLength 88 = .ok (.ireturn, 1) := by decide +kernel
theorem dX4_ifLength_89 : decode cX4_ifLength 89 = .ok (.aload_n 0, 1) := by decide +kernel
theorem dX4_ifLength_90 : decode cX4_ifLength 90 = .ok (.getfield 22, 3) := by decide +kernel
theorem dX4_ifLength_93 : decode cX4_ifLength 93 = .ok (.aload_n 0, 1) := by decide +kernel
theorem dX4_ifLength_94 : decode cX4_ifLength 94 = .ok (.getfield 12, 3) := by decide +kernel
theorem dX4_ifLength_97 : decode cX4_ifLength 97 = .ok (.invokevirtual 165, 3) := by decide +kernel
theorem dX4_ifLength_100 : decode cX4_ifLength 100 = .ok (.ifCond .eq 7, 3) := by decide +kernel
theorem dX4_ifLength_103 : decode cX4_ifLength 103 = .ok (.iconst 1, 1) := by decide +kernel
theorem dX4_ifLength_104 : decode cX4_ifLength 104 = .ok (.goto 4, 3) := by decide +kernel
theorem dX4_ifLength_107 : decode cX4_ifLength 107 = .ok (.iconst 0, 1) := by decide +kernel
theorem dX4_ifLength_108 : decode cX4_ifLength 108 = .ok (.ireturn, 1) := by decide +kernel
set_option maxRecDepth 20000 in
theorem ggX4_goodLength_X4_isWellWith : GoodIn wsX4_goodLength wsX4_isWellWith := goodIn_r _ [6, 7, 8, 9, 10, 11, 12, 13, 14, 15, 16, 17, 18, 19, 20, 21, 22, 23, 24, 25, 26, 27, 28, 29, 30, 31, 32, 33, 34, 35, 36, 37, 38, 39, 40, 41, 42, 43, 44, 45, 46, 47, 48, 49, 50, 51, 52, 53, 54, 55, 56, 57, 58, 59, 60, 61, 62, 63, 64, 65, 66, 67, 68, 69, 5, 70, 71, 72, 73, 74, 75, 76, 77, 78, 79, 80, 81, 82, 83, 84, 85, 86, 87, 88, 89, 90, 91, 92, 93, 94, 95, 96, 97, 98, 99, 100, 101, 102, 103, 104, 105, 106, 107, 108, 109, 110, 111, 112, 113, 114, 115, 116, 117, 118] (by decide +kernel) (by decide +kernel)
set_option maxRecDepth 20000 in
theorem gX4_goodLength_X4_isWellWith : GoodIn wsX4_goodLength (wsV RX4 168 RX4 yX4_isWellWith wsX4_isWellWith) := goodIn_app (goodIn_of _ (by decide +kernel)) ggX4_goodLength_X4_isWellWith
theorem dX4_goodLength_0 : decode cX4_goodLength 0 = .ok (.bipush (-5), 2) := by decide +kernel
theorem dX4_goodLength_2 : decode cX4_goodLength 2 = .ok (.istore_n 2, 1) := by decide +kernel
theorem dX4_goodLength_3 : decode cX4_goodLength 3 = .ok (.iconst 4, 1) := by decide +kernel
theorem dX4_goodLength_4 : decode cX4_goodLength 4 = .ok (.istore_n 3, 1) := by decide +kernel
theorem dX4_goodLength_5 : decode cX4_goodLength 5 = .ok (.iload_n 3, 1) := by decide +kernel
theorem dX4_goodLength_6 : decode cX4_goodLength 6 = .ok (.bipush 40, 2) := by decide +kernel
theorem dX4_goodLength_8 : decode cX4_goodLength 8 = .ok (.if_icmp .gt 33, 3) := by decide +kernel
theorem dX4_goodLength_11 : decode cX4_goodLength 11 = .ok (.iload_n 1, 1) := by decide +kernel
theorem dX4_goodLength_12 : decode cX4_goodLength 12 = .ok (.ifCond .ne 9, 3) := by decide +kernel
theorem dX4_goodLength_15 : decode cX4_goodLength 15 = .ok (.iload_n 2, 1) := by decide +kernel
theorem dX4_goodLength_16 : decode cX4_goodLength 16 = .ok (.bipush (-5), 2) := by decide +kernel
theorem dX4_goodLength_18 : decode cX4_goodLength 18 = .ok (.if_icmp .ne 17, 3) := by decide +kernel
theorem dX4_goodLength_21 : decode cX4_goodLength 21 = .ok (.aload_n 0, 1) := by decide +kernel
theorem dX4_goodLength_22 : decode cX4_goodLength 22 = .ok (.aload_n 0, 1) := by decide +kernel
theorem dX4_goodLength_23 : decode cX4_goodLength 23 = .ok (.getfield 12, 3) := by decide +kernel
theorem dX4_goodLength_26 : decode cX4_goodLength 26 = .ok (.iload_n 3, 1) := by decide +kernel
theorem dX4_goodLength_27 : decode cX4_goodLength 27 = .ok (.invokevirtual 168, 3) := by decide +kernel
theorem dX4_goodLength_30 : decode cX4_goodLength 30 = .ok (.ifCond .eq 5, 3) := by decide +kernel
theorem dX4_goodLength_33 : decode cX4_goodLength 33 = .ok (.iload_n 3, 1) := by decide +kernel
theorem dX4_goodLength_34 : decode cX4_goodLength 34 = .ok (.istore_n 2, 1) := by decide +kernel
theorem dX4_goodLength_35 : decode cX4_goodLength 35 = .ok (.iinc 3 1, 3) := by decide +kernel
theorem dX4_goodLength_38 : decode cX4_goodLength 38 = .ok (.goto (-33), 3) := by decide +kernel
theorem dX4_goodLength_41 : decode cX4_goodLength 41 = .ok (.iload_n 2, 1) := by decide +kernel
theorem dX4_goodLength_42 : decode cX4_goodLength 42 = .ok (.ireturn, 1) := by decide +kernel
set_option maxRecDepth 20000 in
theorem ggX4_harm_X4_isDisturbance : GoodIn wsX4_harm wsX4_isDisturbance := goodIn_r _ [6] (by decide +kernel) (by decide +kernel)
set_option maxRecDepth 20000 in
theorem gX4_harm_X4_isDisturbance : GoodIn wsX4_harm (va_wsS RX4 65 yX4_isDisturbance wsX4_isDisturbance) := goodIn_app (goodIn_of _ (by decide +kernel)) ggX4_harm_X4_isDisturbance
set_option maxRecDepth 20000 in
theorem ggX4_harm_X2_copyFrom : GoodIn wsX4_harm wsX2_copyFrom := goodIn_r _ [11, 12, 13, 14, 15, 16, 17, 18, 19, 20, 129, 130, 131, 132, 133] (by decide +kernel) (by decide +kernel)
set_option maxRecDepth 20000 in
theorem gX4_harm_X2_copyFrom : GoodIn wsX4_harm (wsV RX4 105 RX2 yX2_copyFrom wsX2_copyFrom) := goodIn_app (goodIn_of _ (by decide +kernel)) ggX4_harm_X2_copyFrom
set_option maxRecDepth 20000 in
theorem ggX4_harm_X2_end : GoodIn wsX4_harm wsX2_end := goodIn_r _ [24, 19, 129, 130, 131, 132, 133] (by decide +kernel) (by decide +kernel)
set_option maxRecDepth 20000 in
theorem gX4_harm_X2_end : GoodIn wsX4_harm (wsV RX4 58 RX2 yX2_end wsX2_end) := goodIn_app (goodIn_of _ (by decide +kernel)) ggX4_harm_X2_end
set_option maxRecDepth 20000 in
theorem ggX4_harm_X2_flip : GoodIn wsX4_harm wsX2_flip := goodIn_r _ [28, 29, 30, 31, 32, 19, 12, 33, 34, 35, 10, 36, 129, 130, 131, 132, 133] (by decide +kernel) (by decide +kernel)
set_option maxRecDepth 20000 in
theorem gX4_harm_X2_flip : GoodIn wsX4_harm (wsV RX4 68 RX2 yX2_flip wsX2_flip) := goodIn_app (goodIn_of _ (by decide +kernel)) ggX4_harm_X2_flip
set_option maxRecDepth 20000 in
theorem ggX4_harm_X2_setting : GoodIn wsX4_harm wsX2_setting := goodIn_r _ [40, 18, 129, 130, 131, 132, 133] (by decide +kernel) (by decide +kernel)
set_option maxRecDepth 20000 in
theorem gX4_harm_X2_setting : GoodIn wsX4_harm (wsV RX4 81 RX2 yX2_setting wsX2_setting) := goodIn_app (goodIn_of _ (by decide +kernel)) ggX4_harm_X2_setting
set_option maxRecDepth 20000 in
theorem ggX4_harm_X4_isWellWith : GoodIn wsX4_harm wsX4_isWellWith := goodIn_r _ [44, 45, 46, 47, 48, 49, 50, 51, 52, 53, 54, 55, 10, 56, 29, 30, 31, 32, 57, 19, 58, 59, 60, 61, 12, 62, 63, 64, 65, 66, 67, 68, 69, 22, 23, 24, 70, 71, 72, 73, 74, 75, 76, 77, 78, 79, 34, 35, 36, 80, 81, 82, 83, 38, 39, 40, 18, 84, 85, 86, 87, 88, 89, 90, 5, 91, 92, 93, 94, 95, 96, 97, 98, 99, 100, 101, 102, 103, 104, 105, 106, 107, 108, 109, 110, 111, 20, 112, 113, 114, 115, 17, 116, 117, 118, 119, 120, 121, 122, 123, 124, 125, 126, 127, 128, 134, 135, 136, 137, 129, 130, 131, 132, 133] (by decide +kernel) (by decide +kernel)
set_option maxRecDepth 20000 in
theorem gX4_harm_X4_isWellWith : GoodIn wsX4_harm (wsV RX4 168 RX4 yX4_isWellWith wsX4_isWellWith) := goodIn_app (goodIn_of _ (by decide +kernel)) ggX4_harm_X4_isWellWith
theorem dX4_harm_0 : decode cX4_harm 0 = .ok (.iload_n 1, 1) := by decide +kernel
theorem dX4_harm_1 : decode cX4_harm 1 = .ok (.invokestatic 65, 3) := by decide +kernel
theorem dX4_harm_4 : decode cX4_harm 4 = .ok (.ifCond .ne 6, 3) := by decide +kernel
theorem dX4_harm_7 : decode cX4_harm 7 = .ok (.bipush (-2), 2) := by decide +kernel
theorem dX4_harm_9 : decode cX4_harm 9 = .ok (.ireturn, 1) := by decide +kernel
theorem dX4_harm_10 : decode cX4_harm 10 = .ok (.aload_n 0, 1) := by decide +kernel
theorem dX4_harm_11 : decode cX4_harm 11 = .ok (.getfield 16, 3) := by decide +kernel
theorem dX4_harm_14 : decode cX4_harm 14 = .ok (.aload_n 0, 1) := by decide +kernel
theorem dX4_harm_15 : decode cX4_harm 15 = .ok (.getfield 12, 3) := by decide +kernel
theorem dX4_harm_18 : decode cX4_harm 18 = .ok (.invokevirtual 105, 3) := by decide +kernel
theorem dX4_harm_21 : decode cX4_harm 21 = .ok (.iconst 0, 1) := by decide +kernel
theorem dX4_harm_22 : decode cX4_harm 22 = .ok (.istore_n 2, 1) := by decide +kernel
theorem dX4_harm_23 : decode cX4_harm 23 = .ok (.iload_n 2, 1) := by decide +kernel
theorem dX4_harm_24 : decode cX4_harm 24 = .ok (.aload_n 0, 1) := by decide +kernel
theorem dX4_harm_25 : decode cX4_harm 25 = .ok (.getfield 12, 3) := by decide +kernel
theorem dX4_harm_28 : decode cX4_harm 28 = .ok (.invokevirtual 58, 3) := by decide +kernel
theorem dX4_harm_31 : decode cX4_harm 31 = .ok (.iload_n 1, 1) := by decide +kernel
theorem dX4_harm_32 : decode cX4_harm 32 = .ok (.isub, 1) := by decide +kernel
theorem dX4_harm_33 : decode cX4_harm 33 = .ok (.if_icmp .gt 52, 3) := by decide +kernel
theorem dX4_harm_36 : decode cX4_harm 36 = .ok (.aload_n 0, 1) := by decide +kernel
theorem dX4_harm_37 : decode cX4_harm 37 = .ok (.getfield 16, 3) := by decide +kernel
theorem dX4_harm_40 : decode cX4_harm 40 = .ok (.iload_n 2, 1) := by decide +kernel
theorem dX4_harm_41 : decode cX4_harm 41 = .ok (.iload_n 1, 1) := by decide +kernel
theorem dX4_harm_42 : decode cX4_harm 42 = .ok (.invokevirtual 68, 3) := by decide +kernel
theorem dX4_harm_45 : decode cX4_harm 45 = .ok (.pop, 1) := by decide +kernel
theorem dX4_harm_46 : decode cX4_harm 46 = .ok (.aload_n 0, 1) := by decide +kernel
theorem dX4_harm_47 : decode cX4_harm 47 = .ok (.aload_n 0, 1) := by decide +kernel
theorem dX4_harm_48 : decode cX4_harm 48 = .ok (.getfield 16, 3) := by decide +kernel
theorem dX4_harm_51 : decode cX4_harm 51 = .ok (.aload_n 0, 1) := by decide +kernel
theorem dX4_harm_52 : decode cX4_harm 52 = .ok (.getfield 16, 3) := by decide +kernel
theorem dX4_harm_55 : decode cX4_harm 55 = .ok (.iconst 1, 1) := by decide +kernel
theorem dX4_harm_56 : decode cX4_harm 56 = .ok (.invokevirtual 81, 3) := by decide +kernel
theorem dX4_harm_59 : decode cX4_harm 59 = .ok (.invokevirtual 168, 3) := by decide +kernel
theorem dX4_harm_62 : decode cX4_harm 62 = .ok (.istore_n 3, 1) := by decide +kernel
theorem dX4_harm_63 : decode cX4_harm 63 = .ok (.aload_n 0, 1) := by decide +kernel
theorem dX4_harm_64 : decode cX4_harm 64 = .ok (.getfield 16, 3) := by decide +kernel
theorem dX4_harm_67 : decode cX4_harm 67 = .ok (.iload_n 2, 1) := by decide +kernel
theorem dX4_harm_68 : decode cX4_harm 68 = .ok (.iload_n 1, 1) := by decide +kernel
theorem dX4_harm_69 : decode cX4_harm 69 = .ok (.invokevirtual 68, 3) := by decide +kernel
theorem dX4_harm_72 : decode cX4_harm 72 = .ok (.pop, 1) := by decide +kernel
theorem dX4_harm_73 : decode cX4_harm 73 = .ok (.iload_n 3, 1) := by decide +kernel
theorem dX4_harm_74 : decode cX4_harm 74 = .ok (.ifCond .ne 5, 3) := by decide +kernel
theorem dX4_harm_77 : decode cX4_harm 77 = .ok (.iload_n 2, 1) := by decide +kernel
theorem dX4_harm_78 : decode cX4_harm 78 = .ok (.ireturn, 1) := by decide +kernel
theorem dX4_harm_79 : decode cX4_harm 79 = .ok (.iinc 2 1, 3) := by decide +kernel
theorem dX4_harm_82 : decode cX4_harm 82 = .ok (.goto (-59), 3) := by decide +kernel
theorem dX4_harm_85 : decode cX4_harm 85 = .ok (.bipush (-5), 2) := by decide +kernel
theorem dX4_harm_87 : decode cX4_harm 87 = .ok (.ireturn, 1) := by decide +kernel
set_option maxRecDepth 20000 in
theorem ggX4_ifSent_X4_isWord : GoodIn wsX4_ifSent wsX4_isWord := goodIn_r _ [7] (by decide +kernel) (by decide +kernel)
set_option maxRecDepth 20000 in
theorem gX4_ifSent_X4_isWord : GoodIn wsX4_ifSent (va_wsS RX4 40 yX4_isWord wsX4_isWord) := goodIn_app (goodIn_of _ (by decide +kernel)) ggX4_ifSent_X4_isWord
set_option maxRecDepth 20000 in
theorem ggX4_ifSent_X2_copyFrom : GoodIn wsX4_ifSent wsX2_copyFrom := goodIn_r _ [12, 13, 14, 15, 16, 17, 18, 19, 20, 21, 135, 136, 137, 138, 139] (by decide +kernel) (by decide +kernel)
set_option maxRecDepth 20000 in
theorem gX4_ifSent_X2_copyFrom : GoodIn wsX4_ifSent (wsV RX4 105 RX2 yX2_copyFrom wsX2_copyFrom) := goodIn_app (goodIn_of _ (by decide +kernel)) ggX4_ifSent_X2_copyFrom
set_option maxRecDepth 20000 in
theorem ggX4_ifSent_X2_addWord : GoodIn wsX4_ifSent wsX2_addWord := goodIn_r _ [25, 21, 19, 20, 18, 26, 27, 28, 11, 29, 30, 31, 32, 33, 34, 35, 36, 37, 38, 39, 40, 41, 42, 6, 43, 44, 45, 46, 47, 48, 49, 50, 51, 52, 53, 54, 55, 56, 57, 58, 13, 59, 135, 136, 137, 138, 139] (by decide +kernel) (by decide +kernel)
set_option maxRecDepth 20000 in
theorem gX4_ifSent_X2_addWord : GoodIn wsX4_ifSent (wsV RX4 55 RX2 yX2_addWord wsX2_addWord) := goodIn_app (goodIn_of _ (by decide +kernel)) ggX4_ifSent_X2_addWord
set_option maxRecDepth 20000 in
theorem ggX4_ifSent_X2_setting : GoodIn wsX4_ifSent wsX2_setting := goodIn_r _ [63, 19, 135, 136, 137, 138, 139] (by decide +kernel) (by decide +kernel)
set_option maxRecDepth 20000 in
theorem gX4_ifSent_X2_setting : GoodIn wsX4_ifSent (wsV RX4 81 RX2 yX2_setting wsX2_setting) := goodIn_app (goodIn_of _ (by decide +kernel)) ggX4_ifSent_X2_setting
set_option maxRecDepth 20000 in
theorem ggX4_ifSent_X1_receive : GoodIn wsX4_ifSent wsX1_receive := goodIn_r _ [68, 69, 70, 71, 72, 73, 11, 74, 55, 56, 57, 58, 59, 20, 75, 76, 77, 78, 13, 79, 80, 81, 82, 83, 84, 85, 86, 87, 88, 89, 90, 91, 92, 67, 93, 94, 95, 96, 97, 98, 99, 100, 101, 102, 103, 104, 105, 106, 61, 62, 63, 19, 107, 108, 109, 110, 111, 112, 42, 6, 43, 44, 45, 46, 47, 48, 49, 50, 113, 114, 115, 116, 117, 140, 141, 142, 143, 135, 136, 137, 138, 139] (by decide +kernel) (by decide +kernel)
set_option maxRecDepth 20000 in
theorem gX4_ifSent_X1_receive : GoodIn wsX4_ifSent (wsV RX4 137 RX1 yX1_receive wsX1_receive) := goodIn_app (goodIn_of _ (by decide +kernel)) ggX4_ifSent_X1_receive
set_option maxRecDepth 20000 in
theorem ggX4_ifSent_X1_countGoodWord : GoodIn wsX4_ifSent wsX1_countGoodWord := goodIn_r _ [121, 69, 122, 123, 124, 67, 125, 126, 127, 128, 129, 117, 140, 141, 142, 143] (by decide +kernel) (by decide +kernel)
set_option maxRecDepth 20000 in
theorem gX4_ifSent_X1_countGoodWord : GoodIn wsX4_ifSent (wsV RX4 172 RX1 yX1_countGoodWord wsX1_countGoodWord) := goodIn_app (goodIn_of _ (by decide +kernel)) ggX4_ifSent_X1_countGoodWord
theorem dX4_ifSent_0 : decode cX4_ifSent 0 = .ok (.iload_n 1, 1) := by decide +kernel
theorem dX4_ifSent_1 : decode cX4_ifSent 1 = .ok (.invokestatic 40, 3) := by decide +kernel
theorem dX4_ifSent_4 : decode cX4_ifSent 4 = .ok (.ifCond .ne 6, 3) := by decide +kernel
theorem dX4_ifSent_7 : decode cX4_ifSent 7 = .ok (.bipush (-2), 2) := by decide +kernel
theorem dX4_ifSent_9 : decode cX4_ifSent 9 = .ok (.ireturn, 1) := by decide +kernel
theorem dX4_ifSent_10 : decode cX4_ifSent 10 = .ok (.aload_n 0, 1) := by decide +kernel
theorem dX4_ifSent_11 : decode cX4_ifSent 11 = .ok (.getfield 16, 3) := by decide +kernel
theorem dX4_ifSent_14 : decode cX4_ifSent 14 = .ok (.aload_n 0, 1) := by decide +kernel
theorem dX4_ifSent_15 : decode cX4_ifSent 15 = .ok (.getfield 12, 3) := by decide +kernel
theorem dX4_ifSent_18 : decode cX4_ifSent 18 = .ok (.invokevirtual 105, 3) := by decide +kernel
theorem dX4_ifSent_21 : decode cX4_ifSent 21 = .ok (.aload_n 0, 1) := by decide +kernel
theorem dX4_ifSent_22 : decode cX4_ifSent 22 = .ok (.getfield 16, 3) := by decide +kernel
theorem dX4_ifSent_25 : decode cX4_ifSent 25 = .ok (.iload_n 1, 1) := by decide +kernel
theorem dX4_ifSent_26 : decode cX4_ifSent 26 = .ok (.invokevirtual 55, 3) := by decide +kernel
theorem dX4_ifSent_29 : decode cX4_ifSent 29 = .ok (.ifCond .ne 6, 3) := by decide +kernel
theorem dX4_ifSent_32 : decode cX4_ifSent 32 = .ok (.bipush (-3), 2) := by decide +kernel
theorem dX4_ifSent_34 : decode cX4_ifSent 34 = .ok (.ireturn, 1) := by decide +kernel
theorem dX4_ifSent_35 : decode cX4_ifSent 35 = .ok (.aload_n 0, 1) := by decide +kernel
theorem dX4_ifSent_36 : decode cX4_ifSent 36 = .ok (.getfield 22, 3) := by decide +kernel
theorem dX4_ifSent_39 : decode cX4_ifSent 39 = .ok (.aload_n 0, 1) := by decide +kernel
theorem dX4_ifSent_40 : decode cX4_ifSent 40 = .ok (.getfield 16, 3) := by decide +kernel
theorem dX4_ifSent_43 : decode cX4_ifSent 43 = .ok (.aload_n 0, 1) := by decide +kernel
theorem dX4_ifSent_44 : decode cX4_ifSent 44 = .ok (.getfield 16, 3) := by decide +kernel
theorem dX4_ifSent_47 : decode cX4_ifSent 47 = .ok (.iconst 1, 1) := by decide +kernel
theorem dX4_ifSent_48 : decode cX4_ifSent 48 = .ok (.invokevirtual 81, 3) := by decide +kernel
theorem dX4_ifSent_51 : decode cX4_ifSent 51 = .ok (.invokevirtual 137, 3) := by decide +kernel
theorem dX4_ifSent_54 : decode cX4_ifSent 54 = .ok (.aload_n 0, 1) := by decide +kernel
theorem dX4_ifSent_55 : decode cX4_ifSent 55 = .ok (.getfield 22, 3) := by decide +kernel
theorem dX4_ifSent_58 : decode cX4_ifSent 58 = .ok (.iload_n 1, 1) := by decide +kernel
theorem dX4_ifSent_59 : decode cX4_ifSent 59 = .ok (.invokevirtual 172, 3) := by decide +kernel
theorem dX4_ifSent_62 : decode cX4_ifSent 62 = .ok (.ireturn, 1) := by decide +kernel
theorem dX4_isWord_0 : decode cX4_isWord 0 = .ok (.iload_n 0, 1) := by decide +kernel
theorem dX4_isWord_1 : decode cX4_isWord 1 = .ok (.ifCond .lt 14, 3) := by decide +kernel
theorem dX4_isWord_4 : decode cX4_isWord 4 = .ok (.iload_n 0, 1) := by decide +kernel
theorem dX4_isWord_5 : decode cX4_isWord 5 = .ok (.sipush 255, 3) := by decide +kernel
theorem dX4_isWord_8 : decode cX4_isWord 8 = .ok (.if_icmp .gt 7, 3) := by decide +kernel
theorem dX4_isWord_11 : decode cX4_isWord 11 = .ok (.iconst 1, 1) := by decide +kernel
theorem dX4_isWord_12 : decode cX4_isWord 12 = .ok (.goto 4, 3) := by decide +kernel
theorem dX4_isWord_15 : decode cX4_isWord 15 = .ok (.iconst 0, 1) := by decide +kernel
theorem dX4_isWord_16 : decode cX4_isWord 16 = .ok (.ireturn, 1) := by decide +kernel
theorem dX4_isDisturbance_0 : decode cX4_isDisturbance 0 = .ok (.iload_n 0, 1) := by decide +kernel
theorem dX4_isDisturbance_1 : decode cX4_isDisturbance 1 = .ok (.iconst 1, 1) := by decide +kernel
theorem dX4_isDisturbance_2 : decode cX4_isDisturbance 2 = .ok (.if_icmp .lt 13, 3) := by decide +kernel
theorem dX4_isDisturbance_5 : decode cX4_isDisturbance 5 = .ok (.iload_n 0, 1) := by decide +kernel
theorem dX4_isDisturbance_6 : decode cX4_isDisturbance 6 = .ok (.bipush 40, 2) := by decide +kernel
theorem dX4_isDisturbance_8 : decode cX4_isDisturbance 8 = .ok (.if_icmp .gt 7, 3) := by decide +kernel
theorem dX4_isDisturbance_11 : decode cX4_isDisturbance 11 = .ok (.iconst 1, 1) := by decide +kernel
theorem dX4_isDisturbance_12 : decode cX4_isDisturbance 12 = .ok (.goto 4, 3) := by decide +kernel
theorem dX4_isDisturbance_15 : decode cX4_isDisturbance 15 = .ok (.iconst 0, 1) := by decide +kernel
theorem dX4_isDisturbance_16 : decode cX4_isDisturbance 16 = .ok (.ireturn, 1) := by decide +kernel
set_option maxRecDepth 20000 in
theorem ggX4_parityOf_J6_bitCount_0f7a4 : GoodIn wsX4_parityOf wsJ6_bitCount_0f7a4 := goodIn_r _ [4, 5, 6, 7] (by decide +kernel) (by decide +kernel)
set_option maxRecDepth 20000 in
theorem gX4_parityOf_J6_bitCount_0f7a4 : GoodIn wsX4_parityOf (va_wsS RX4 175 yJ6_bitCount_0f7a4 wsJ6_bitCount_0f7a4) := goodIn_app (goodIn_of _ (by decide +kernel)) ggX4_parityOf_J6_bitCount_0f7a4
theorem dX4_parityOf_0 : decode cX4_parityOf 0 = .ok (.iload_n 0, 1) := by decide +kernel
theorem dX4_parityOf_1 : decode cX4_parityOf 1 = .ok (.invokestatic 175, 3) := by decide +kernel
theorem dX4_parityOf_4 : decode cX4_parityOf 4 = .ok (.iconst 1, 1) := by decide +kernel
theorem dX4_parityOf_5 : decode cX4_parityOf 5 = .ok (.iand, 1) := by decide +kernel
theorem dX4_parityOf_6 : decode cX4_parityOf 6 = .ok (.istore_n 2, 1) := by decide +kernel
theorem dX4_parityOf_7 : decode cX4_parityOf 7 = .ok (.iload_n 1, 1) := by decide +kernel
theorem dX4_parityOf_8 : decode cX4_parityOf 8 = .ok (.iconst 1, 1) := by decide +kernel
theorem dX4_parityOf_9 : decode cX4_parityOf 9 = .ok (.if_icmp .ne 7, 3) := by decide +kernel
theorem dX4_parityOf_12 : decode cX4_parityOf 12 = .ok (.iload_n 2, 1) := by decide +kernel
theorem dX4_parityOf_13 : decode cX4_parityOf 13 = .ok (.goto 6, 3) := by decide +kernel
theorem dX4_parityOf_16 : decode cX4_parityOf 16 = .ok (.iconst 1, 1) := by decide +kernel
theorem dX4_parityOf_17 : decode cX4_parityOf 17 = .ok (.iload_n 2, 1) := by decide +kernel
theorem dX4_parityOf_18 : decode cX4_parityOf 18 = .ok (.isub, 1) := by decide +kernel
theorem dX4_parityOf_19 : decode cX4_parityOf 19 = .ok (.ireturn, 1) := by decide +kernel
set_option maxRecDepth 20000 in
theorem ggX4_sendStretch_X2_hasRoom : GoodIn wsX4_sendStretch wsX2_hasRoom := goodIn_r _ [7, 8, 55, 56, 57, 58, 59] (by decide +kernel) (by decide +kernel)
set_option maxRecDepth 20000 in
theorem gX4_sendStretch_X2_hasRoom : GoodIn wsX4_sendStretch (wsV RX4 48 RX2 yX2_hasRoom wsX2_hasRoom) := goodIn_app (goodIn_of _ (by decide +kernel)) ggX4_sendStretch_X2_hasRoom
set_option maxRecDepth 20000 in
theorem ggX4_sendStretch_X0_remember : GoodIn wsX4_sendStretch wsX0_remember := goodIn_r _ [13, 14, 15, 16, 17, 18, 12, 19, 20, 21, 22, 6, 23, 24, 25, 26, 27, 28, 29, 30, 8, 31, 60, 61, 62, 63, 55, 56, 57, 58, 59] (by decide +kernel) (by decide +kernel)
set_option maxRecDepth 20000 in
theorem gX4_sendStretch_X0_remember : GoodIn wsX4_sendStretch (wsV RX4 51 RX0 yX0_remember wsX0_remember) := goodIn_app (goodIn_of _ (by decide +kernel)) ggX4_sendStretch_X0_remember
set_option maxRecDepth 20000 in
theorem ggX4_sendStretch_X2_addStretch : GoodIn wsX4_sendStretch wsX2_addStretch := goodIn_r _ [35, 8, 36, 4, 5, 6, 7, 37, 38, 39, 40, 41, 42, 43, 44, 24, 45, 55, 56, 57, 58, 59] (by decide +kernel) (by decide +kernel)
set_option maxRecDepth 20000 in
theorem gX4_sendStretch_X2_addStretch : GoodIn wsX4_sendStretch (wsV RX4 180 RX2 yX2_addStretch wsX2_addStretch) := goodIn_app (goodIn_of _ (by decide +kernel)) ggX4_sendStretch_X2_addStretch
set_option maxRecDepth 20000 in
theorem ggX4_sendStretch_X2_end : GoodIn wsX4_sendStretch wsX2_end := goodIn_r _ [49, 8, 55, 56, 57, 58, 59] (by decide +kernel) (by decide +kernel)
set_option maxRecDepth 20000 in
theorem gX4_sendStretch_X2_end : GoodIn wsX4_sendStretch (wsV RX4 58 RX2 yX2_end wsX2_end) := goodIn_app (goodIn_of _ (by decide +kernel)) ggX4_sendStretch_X2_end
theorem dX4_sendStretch_0 : decode cX4_sendStretch 0 = .ok (.iload_n 2, 1) := by decide +kernel
theorem dX4_sendStretch_1 : decode cX4_sendStretch 1 = .ok (.iconst 1, 1) := by decide +kernel
theorem dX4_sendStretch_2 : decode cX4_sendStretch 2 = .ok (.if_icmp .lt 10, 3) := by decide +kernel
theorem dX4_sendStretch_5 : decode cX4_sendStretch 5 = .ok (.iload_n 2, 1) := by decide +kernel
theorem dX4_sendStretch_6 : decode cX4_sendStretch 6 = .ok (.sipush 500, 3) := by decide +kernel
theorem dX4_sendStretch_9 : decode cX4_sendStretch 9 = .ok (.if_icmp .le 6, 3) := by decide +kernel
theorem dX4_sendStretch_12 : decode cX4_sendStretch 12 = .ok (.bipush (-2), 2) := by decide +kernel
theorem dX4_sendStretch_14 : decode cX4_sendStretch 14 = .ok (.ireturn, 1) := by decide +kernel
theorem dX4_sendStretch_15 : decode cX4_sendStretch 15 = .ok (.aload_n 0, 1) := by decide +kernel
theorem dX4_sendStretch_16 : decode cX4_sendStretch 16 = .ok (.getfield 12, 3) := by decide +kernel
theorem dX4_sendStretch_19 : decode cX4_sendStretch 19 = .ok (.iload_n 2, 1) := by decide +kernel
theorem dX4_sendStretch_20 : decode cX4_sendStretch 20 = .ok (.invokevirtual 48, 3) := by decide +kernel
theorem dX4_sendStretch_23 : decode cX4_sendStretch 23 = .ok (.ifCond .ne 6, 3) := by decide +kernel
theorem dX4_sendStretch_26 : decode cX4_sendStretch 26 = .ok (.bipush (-3), 2) := by decide +kernel
theorem dX4_sendStretch_28 : decode cX4_sendStretch 28 = .ok (.ireturn, 1) := by decide +kernel
theorem dX4_sendStretch_29 : decode cX4_sendStretch 29 = .ok (.aload_n 0, 1) := by decide +kernel
theorem dX4_sendStretch_30 : decode cX4_sendStretch 30 = .ok (.getfield 36, 3) := by decide +kernel
theorem dX4_sendStretch_33 : decode cX4_sendStretch 33 = .ok (.aload_n 0, 1) := by decide +kernel
theorem dX4_sendStretch_34 : decode cX4_sendStretch 34 = .ok (.getfield 12, 3) := by decide +kernel
theorem dX4_sendStretch_37 : decode cX4_sendStretch 37 = .ok (.invokevirtual 51, 3) := by decide +kernel
theorem dX4_sendStretch_40 : decode cX4_sendStretch 40 = .ok (.aload_n 0, 1) := by decide +kernel
theorem dX4_sendStretch_41 : decode cX4_sendStretch 41 = .ok (.getfield 12, 3) := by decide +kernel
theorem dX4_sendStretch_44 : decode cX4_sendStretch 44 = .ok (.iload_n 1, 1) := by decide +kernel
theorem dX4_sendStretch_45 : decode cX4_sendStretch 45 = .ok (.iload_n 2, 1) := by decide +kernel
theorem dX4_sendStretch_46 : decode cX4_sendStretch 46 = .ok (.invokevirtual 180, 3) := by decide +kernel
theorem dX4_sendStretch_49 : decode cX4_sendStretch 49 = .ok (.pop, 1) := by decide +kernel
theorem dX4_sendStretch_50 : decode cX4_sendStretch 50 = .ok (.aload_n 0, 1) := by decide +kernel
theorem dX4_sendStretch_51 : decode cX4_sendStretch 51 = .ok (.getfield 12, 3) := by decide +kernel
theorem dX4_sendStretch_54 : decode cX4_sendStretch 54 = .ok (.invokevirtual 58, 3) := by decide +kernel
theorem dX4_sendStretch_57 : decode cX4_sendStretch 57 = .ok (.ireturn, 1) := by decide +kernel
set_option maxRecDepth 20000 in
theorem ggX4_isWellWith_X1_receive : GoodIn wsX4_isWellWith wsX1_receive := goodIn_r _ [6, 7, 8, 9, 10, 11, 12, 13, 14, 15, 16, 17, 18, 19, 20, 21, 22, 23, 24, 25, 26, 27, 28, 29, 30, 31, 32, 33, 34, 35, 36, 37, 38, 5, 39, 40, 41, 42, 43, 44, 45, 46, 47, 48, 49, 50, 51, 52, 53, 54, 55, 56, 57, 58, 59, 60, 61, 62, 63, 64, 65, 66, 67, 68, 69, 70, 71, 72, 73, 74, 75, 76, 77, 105, 106, 107, 108, 109, 110, 111, 112, 113] (by decide +kernel) (by decide +kernel)
set_option maxRecDepth 20000 in
theorem gX4_isWellWith_X1_receive : GoodIn wsX4_isWellWith (wsV RX4 137 RX1 yX1_receive wsX1_receive) := goodIn_app (goodIn_of _ (by decide +kernel)) ggX4_isWellWith_X1_receive
set_option maxRecDepth 20000 in
theorem ggX4_isWellWith_X1_isAllWell : GoodIn wsX4_isWellWith wsX1_isAllWell := goodIn_r _ [81, 7, 82, 83, 84, 12, 85, 86, 87, 88, 89, 90, 91, 92, 93, 94, 5, 95, 96, 97, 98, 99, 77, 105, 106, 107, 108, 109, 110, 111, 112, 113] (by decide +kernel) (by decide +kernel)
set_option maxRecDepth 20000 in
theorem gX4_isWellWith_X1_isAllWell : GoodIn wsX4_isWellWith (wsV RX4 165 RX1 yX1_isAllWell wsX1_isAllWell) := goodIn_app (goodIn_of _ (by decide +kernel)) ggX4_isWellWith_X1_isAllWell
theorem dX4_isWellWith_0 : decode cX4_isWellWith 0 = .ok (.aload_n 0, 1) := by decide +kernel
theorem dX4_isWellWith_1 : decode cX4_isWellWith 1 = .ok (.getfield 22, 3) := by decide +kernel
theorem dX4_isWellWith_4 : decode cX4_isWellWith 4 = .ok (.aload_n 1, 1) := by decide +kernel
theorem dX4_isWellWith_5 : decode cX4_isWellWith 5 = .ok (.iload_n 2, 1) := by decide +kernel
theorem dX4_isWellWith_6 : decode cX4_isWellWith 6 = .ok (.invokevirtual 137, 3) := by decide +kernel
theorem dX4_isWellWith_9 : decode cX4_isWellWith 9 = .ok (.aload_n 0, 1) := by decide +kernel
theorem dX4_isWellWith_10 : decode cX4_isWellWith 10 = .ok (.getfield 22, 3) := by decide +kernel
theorem dX4_isWellWith_13 : decode cX4_isWellWith 13 = .ok (.aload_n 1, 1) := by decide +kernel
theorem dX4_isWellWith_14 : decode cX4_isWellWith 14 = .ok (.invokevirtual 165, 3) := by decide +kernel
theorem dX4_isWellWith_17 : decode cX4_isWellWith 17 = .ok (.ireturn, 1) := by decide +kernel
set_option maxRecDepth 20000 in
theorem ggX4_totalReceived_X2_setting : GoodIn wsX4_totalReceived wsX2_setting := goodIn_r _ [7, 8, 123, 124, 125, 126, 127] (by decide +kernel) (by decide +kernel)
set_option maxRecDepth 20000 in
theorem gX4_totalReceived_X2_setting : GoodIn wsX4_totalReceived (wsV RX4 81 RX2 yX2_setting wsX2_setting) := goodIn_app (goodIn_of _ (by decide +kernel)) ggX4_totalReceived_X2_setting
set_option maxRecDepth 20000 in
theorem ggX4_totalReceived_X1_receive : GoodIn wsX4_totalReceived wsX1_receive := goodIn_r _ [13, 14, 15, 16, 17, 18, 6, 19, 20, 21, 22, 23, 24, 25, 26, 27, 28, 29, 30, 31, 32, 33, 34, 35, 36, 37, 38, 39, 40, 41, 42, 43, 44, 12, 45, 46, 47, 48, 49, 50, 51, 52, 53, 54, 55, 56, 57, 58, 4, 5, 7, 8, 59, 60, 61, 62, 63, 64, 65, 66, 67, 68, 69, 70, 71, 72, 73, 74, 75, 76, 77, 78, 79, 128, 129, 130, 131, 123, 124, 125, 126, 127] (by decide +kernel) (by decide +kernel)
set_option maxRecDepth 20000 in
theorem gX4_totalReceived_X1_receive : GoodIn wsX4_totalReceived (wsV RX4 137 RX1 yX1_receive wsX1_receive) := goodIn_app (goodIn_of _ (by decide +kernel)) ggX4_totalReceived_X1_receive
set_option maxRecDepth 20000 in
theorem ggX4_totalReceived_X1_count : GoodIn wsX4_totalReceived wsX1_count := goodIn_r _ [83, 14, 128, 129, 130, 131] (by decide +kernel) (by decide +kernel)
set_option maxRecDepth 20000 in
theorem gX4_totalReceived_X1_count : GoodIn wsX4_totalReceived (wsV RX4 156 RX1 yX1_count wsX1_count) := goodIn_app (goodIn_of _ (by decide +kernel)) ggX4_totalReceived_X1_count
set_option maxRecDepth 20000 in
theorem ggX4_totalReceived_X1_countKind : GoodIn wsX4_totalReceived wsX1_countKind := goodIn_r _ [87, 14, 88, 89, 90, 12, 91, 79, 128, 129, 130, 131] (by decide +kernel) (by decide +kernel)
set_option maxRecDepth 20000 in
theorem gX4_totalReceived_X1_countKind : GoodIn wsX4_totalReceived (wsV RX4 159 RX1 yX1_countKind wsX1_countKind) := goodIn_app (goodIn_of _ (by decide +kernel)) ggX4_totalReceived_X1_countKind
set_option maxRecDepth 20000 in
theorem ggX4_totalReceived_X1_falseStarts : GoodIn wsX4_totalReceived wsX1_falseStarts := goodIn_r _ [95, 15, 128, 129, 130, 131] (by decide +kernel) (by decide +kernel)
set_option maxRecDepth 20000 in
theorem gX4_totalReceived_X1_falseStarts : GoodIn wsX4_totalReceived (wsV RX4 184 RX1 yX1_falseStarts wsX1_falseStarts) := goodIn_app (goodIn_of _ (by decide +kernel)) ggX4_totalReceived_X1_falseStarts
set_option maxRecDepth 20000 in
theorem ggX4_totalReceived_X1_countDoubtful : GoodIn wsX4_totalReceived wsX1_countDoubtful := goodIn_r _ [99, 14, 88, 89, 90, 12, 91, 79, 128, 129, 130, 131] (by decide +kernel) (by decide +kernel)
set_option maxRecDepth 20000 in
theorem gX4_totalReceived_X1_countDoubtful : GoodIn wsX4_totalReceived (wsV RX4 162 RX1 yX1_countDoubtful wsX1_countDoubtful) := goodIn_app (goodIn_of _ (by decide +kernel)) ggX4_totalReceived_X1_countDoubtful
set_option maxRecDepth 20000 in
theorem ggX4_totalReceived_X1_isAllWell : GoodIn wsX4_totalReceived wsX1_isAllWell := goodIn_r _ [103, 14, 104, 105, 106, 6, 107, 108, 109, 110, 111, 112, 113, 114, 115, 116, 12, 117, 88, 89, 90, 91, 79, 128, 129, 130, 131, 123, 124, 125, 126, 127] (by decide +kernel) (by decide +kernel)
set_option maxRecDepth 20000 in
theorem gX4_totalReceived_X1_isAllWell : GoodIn wsX4_totalReceived (wsV RX4 165 RX1 yX1_isAllWell wsX1_isAllWell) := goodIn_app (goodIn_of _ (by decide +kernel)) ggX4_totalReceived_X1_isAllWell
theorem dX4_totalReceived_0 : decode cX4_totalReceived 0 = .ok (.aload_n 0, 1) := by decide +kernel
theorem dX4_totalReceived_1 : decode cX4_totalReceived 1 = .ok (.getfield 22, 3) := by decide +kernel
theorem dX4_totalReceived_4 : decode cX4_totalReceived 4 = .ok (.aload_n 0, 1) := by decide +kernel
theorem dX4_totalReceived_5 : decode cX4_totalReceived 5 = .ok (.getfield 12, 3) := by decide +kernel
theorem dX4_totalReceived_8 : decode cX4_totalReceived 8 = .ok (.aload_n 0, 1) := by decide +kernel
theorem dX4_totalReceived_9 : decode cX4_totalReceived 9 = .ok (.getfield 12, 3) := by decide +kernel
theorem dX4_totalReceived_12 : decode cX4_totalReceived 12 = .ok (.iconst 1, 1) := by decide +kernel
theorem dX4_totalReceived_13 : decode cX4_totalReceived 13 = .ok (.invokevirtual 81, 3) := by decide +kernel
theorem dX4_totalReceived_16 : decode cX4_totalReceived 16 = .ok (.invokevirtual 137, 3) := by decide +kernel
theorem dX4_totalReceived_19 : decode cX4_totalReceived 19 = .ok (.iload_n 1, 1) := by decide +kernel
theorem dX4_totalReceived_20 : decode cX4_totalReceived 20 = .ok (.tableswitch 104 7 13 #[44, 52, 61, 70, 79, 88, 96], 44) := by decide +kernel
theorem dX4_totalReceived_64 : decode cX4_totalReceived 64 = .ok (.aload_n 0, 1) := by decide +kernel
theorem dX4_totalReceived_65 : decode cX4_totalReceived 65 = .ok (.getfield 22, 3) := by decide +kernel
theorem dX4_totalReceived_68 : decode cX4_totalReceived 68 = .ok (.invokevirtual 156, 3) := by decide +kernel
theorem dX4_totalReceived_71 : decode cX4_totalReceived 71 = .ok (.ireturn, 1) := by decide +kernel
theorem dX4_totalReceived_72 : decode cX4_totalReceived 72 = .ok (.aload_n 0, 1) := by decide +kernel
theorem dX4_totalReceived_73 : decode cX4_totalReceived 73 = .ok (.getfield 22, 3) := by decide +kernel
theorem dX4_totalReceived_76 : decode cX4_totalReceived 76 = .ok (.iconst 0, 1) := by decide +kernel
theorem dX4_totalReceived_77 : decode cX4_totalReceived 77 = .ok (.invokevirtual 159, 3) := by decide +kernel
theorem dX4_totalReceived_80 : decode cX4_totalReceived 80 = .ok (.ireturn, 1) := by decide +kernel
theorem dX4_totalReceived_81 : decode cX4_totalReceived 81 = .ok (.aload_n 0, 1) := by decide +kernel
theorem dX4_totalReceived_82 : decode cX4_totalReceived 82 = .ok (.getfield 22, 3) := by decide +kernel
theorem dX4_totalReceived_85 : decode cX4_totalReceived 85 = .ok (.iconst 1, 1) := by decide +kernel
theorem dX4_totalReceived_86 : decode cX4_totalReceived 86 = .ok (.invokevirtual 159, 3) := by decide +kernel
theorem dX4_totalReceived_89 : decode cX4_totalReceived 89 = .ok (.ireturn, 1) := by decide +kernel
theorem dX4_totalReceived_90 : decode cX4_totalReceived 90 = .ok (.aload_n 0, 1) := by decide +kernel
theorem dX4_totalReceived_91 : decode cX4_totalReceived 91 = .ok (.getfield 22, 3) := by decide +kernel
theorem dX4_totalReceived_94 : decode cX4_totalReceived 94 = .ok (.iconst 2, 1) := by decide +kernel
theorem dX4_totalReceived_95 : decode cX4_totalReceived 95 = .ok (.invokevirtual 159, 3) := by decide +kernel
theorem dX4_totalReceived_98 : decode cX4_totalReceived 98 = .ok (.ireturn, 1) := by decide +kernel
theorem dX4_totalReceived_99 : decode cX4_totalReceived 99 = .ok (.aload_n 0, 1) := by decide +kernel
theorem dX4_totalReceived_100 : decode cX4_totalReceived 100 = .ok (.getfield 22, 3) := by decide +kernel
theorem dX4_totalReceived_103 : decode cX4_totalReceived 103 = .ok (.iconst 3, 1) := by decide +kernel
theorem dX4_totalReceived_104 : decode cX4_totalReceived 104 = .ok (.invokevirtual 159, 3) := by decide +kernel
theorem dX4_totalReceived_107 : decode cX4_totalReceived 107 = .ok (.ireturn, 1) := by decide +kernel
theorem dX4_totalReceived_108 : decode cX4_totalReceived 108 = .ok (.aload_n 0, 1) := by decide +kernel
theorem dX4_totalReceived_109 : decode cX4_totalReceived 109 = .ok (.getfield 22, 3) := by decide +kernel
theorem dX4_totalReceived_112 : decode cX4_totalReceived 112 = .ok (.invokevirtual 184, 3) := by decide +kernel
theorem dX4_totalReceived_115 : decode cX4_totalReceived 115 = .ok (.ireturn, 1) := by decide +kernel
theorem dX4_totalReceived_116 : decode cX4_totalReceived 116 = .ok (.aload_n 0, 1) := by decide +kernel
theorem dX4_totalReceived_117 : decode cX4_totalReceived 117 = .ok (.getfield 22, 3) := by decide +kernel
theorem dX4_totalReceived_120 : decode cX4_totalReceived 120 = .ok (.invokevirtual 162, 3) := by decide +kernel
theorem dX4_totalReceived_123 : decode cX4_totalReceived 123 = .ok (.ireturn, 1) := by decide +kernel
theorem dX4_totalReceived_124 : decode cX4_totalReceived 124 = .ok (.aload_n 0, 1) := by decide +kernel
theorem dX4_totalReceived_125 : decode cX4_totalReceived 125 = .ok (.getfield 22, 3) := by decide +kernel
theorem dX4_totalReceived_128 : decode cX4_totalReceived 128 = .ok (.aload_n 0, 1) := by decide +kernel
theorem dX4_totalReceived_129 : decode cX4_totalReceived 129 = .ok (.getfield 12, 3) := by decide +kernel
theorem dX4_totalReceived_132 : decode cX4_totalReceived 132 = .ok (.invokevirtual 165, 3) := by decide +kernel
theorem dX4_totalReceived_135 : decode cX4_totalReceived 135 = .ok (.ifCond .eq 7, 3) := by decide +kernel
theorem dX4_totalReceived_138 : decode cX4_totalReceived 138 = .ok (.iconst 1, 1) := by decide +kernel
theorem dX4_totalReceived_139 : decode cX4_totalReceived 139 = .ok (.goto 4, 3) := by decide +kernel
theorem dX4_totalReceived_142 : decode cX4_totalReceived 142 = .ok (.iconst 0, 1) := by decide +kernel
theorem dX4_totalReceived_143 : decode cX4_totalReceived 143 = .ok (.ireturn, 1) := by decide +kernel
theorem dJ6_bitCount_0f7a4_0 : decode cJ6_bitCount_0f7a4 0 = .ok (.iload_n 0, 1) := by decide +kernel
theorem dJ6_bitCount_0f7a4_1 : decode cJ6_bitCount_0f7a4 1 = .ok (.iload_n 0, 1) := by decide +kernel
theorem dJ6_bitCount_0f7a4_2 : decode cJ6_bitCount_0f7a4 2 = .ok (.iconst 1, 1) := by decide +kernel
theorem dJ6_bitCount_0f7a4_3 : decode cJ6_bitCount_0f7a4 3 = .ok (.iushr, 1) := by decide +kernel
theorem dJ6_bitCount_0f7a4_4 : decode cJ6_bitCount_0f7a4 4 = .ok (.ldc_w 265, 3) := by decide +kernel
theorem dJ6_bitCount_0f7a4_7 : decode cJ6_bitCount_0f7a4 7 = .ok (.iand, 1) := by decide +kernel
theorem dJ6_bitCount_0f7a4_8 : decode cJ6_bitCount_0f7a4 8 = .ok (.isub, 1) := by decide +kernel
theorem dJ6_bitCount_0f7a4_9 : decode cJ6_bitCount_0f7a4 9 = .ok (.istore_n 0, 1) := by decide +kernel
theorem dJ6_bitCount_0f7a4_10 : decode cJ6_bitCount_0f7a4 10 = .ok (.iload_n 0, 1) := by decide +kernel
theorem dJ6_bitCount_0f7a4_11 : decode cJ6_bitCount_0f7a4 11 = .ok (.ldc_w 266, 3) := by decide +kernel
theorem dJ6_bitCount_0f7a4_14 : decode cJ6_bitCount_0f7a4 14 = .ok (.iand, 1) := by decide +kernel
theorem dJ6_bitCount_0f7a4_15 : decode cJ6_bitCount_0f7a4 15 = .ok (.iload_n 0, 1) := by decide +kernel
theorem dJ6_bitCount_0f7a4_16 : decode cJ6_bitCount_0f7a4 16 = .ok (.iconst 2, 1) := by decide +kernel
theorem dJ6_bitCount_0f7a4_17 : decode cJ6_bitCount_0f7a4 17 = .ok (.iushr, 1) := by decide +kernel
theorem dJ6_bitCount_0f7a4_18 : decode cJ6_bitCount_0f7a4 18 = .ok (.ldc_w 266, 3) := by decide +kernel
theorem dJ6_bitCount_0f7a4_21 : decode cJ6_bitCount_0f7a4 21 = .ok (.iand, 1) := by decide +kernel
theorem dJ6_bitCount_0f7a4_22 : decode cJ6_bitCount_0f7a4 22 = .ok (.iadd, 1) := by decide +kernel
theorem dJ6_bitCount_0f7a4_23 : decode cJ6_bitCount_0f7a4 23 = .ok (.istore_n 0, 1) := by decide +kernel
theorem dJ6_bitCount_0f7a4_24 : decode cJ6_bitCount_0f7a4 24 = .ok (.iload_n 0, 1) := by decide +kernel
theorem dJ6_bitCount_0f7a4_25 : decode cJ6_bitCount_0f7a4 25 = .ok (.iload_n 0, 1) := by decide +kernel
theorem dJ6_bitCount_0f7a4_26 : decode cJ6_bitCount_0f7a4 26 = .ok (.iconst 4, 1) := by decide +kernel
theorem dJ6_bitCount_0f7a4_27 : decode cJ6_bitCount_0f7a4 27 = .ok (.iushr, 1) := by decide +kernel
theorem dJ6_bitCount_0f7a4_28 : decode cJ6_bitCount_0f7a4 28 = .ok (.iadd, 1) := by decide +kernel
theorem dJ6_bitCount_0f7a4_29 : decode cJ6_bitCount_0f7a4 29 = .ok (.ldc_w 267, 3) := by decide +kernel
theorem dJ6_bitCount_0f7a4_32 : decode cJ6_bitCount_0f7a4 32 = .ok (.iand, 1) := by decide +kernel
theorem dJ6_bitCount_0f7a4_33 : decode cJ6_bitCount_0f7a4 33 = .ok (.istore_n 0, 1) := by decide +kernel
theorem dJ6_bitCount_0f7a4_34 : decode cJ6_bitCount_0f7a4 34 = .ok (.iload_n 0, 1) := by decide +kernel
theorem dJ6_bitCount_0f7a4_35 : decode cJ6_bitCount_0f7a4 35 = .ok (.iload_n 0, 1) := by decide +kernel
theorem dJ6_bitCount_0f7a4_36 : decode cJ6_bitCount_0f7a4 36 = .ok (.bipush 8, 2) := by decide +kernel
theorem dJ6_bitCount_0f7a4_38 : decode cJ6_bitCount_0f7a4 38 = .ok (.iushr, 1) := by decide +kernel
theorem dJ6_bitCount_0f7a4_39 : decode cJ6_bitCount_0f7a4 39 = .ok (.iadd, 1) := by decide +kernel
theorem dJ6_bitCount_0f7a4_40 : decode cJ6_bitCount_0f7a4 40 = .ok (.istore_n 0, 1) := by decide +kernel
theorem dJ6_bitCount_0f7a4_41 : decode cJ6_bitCount_0f7a4 41 = .ok (.iload_n 0, 1) := by decide +kernel
theorem dJ6_bitCount_0f7a4_42 : decode cJ6_bitCount_0f7a4 42 = .ok (.iload_n 0, 1) := by decide +kernel
theorem dJ6_bitCount_0f7a4_43 : decode cJ6_bitCount_0f7a4 43 = .ok (.bipush 16, 2) := by decide +kernel
theorem dJ6_bitCount_0f7a4_45 : decode cJ6_bitCount_0f7a4 45 = .ok (.iushr, 1) := by decide +kernel
theorem dJ6_bitCount_0f7a4_46 : decode cJ6_bitCount_0f7a4 46 = .ok (.iadd, 1) := by decide +kernel
theorem dJ6_bitCount_0f7a4_47 : decode cJ6_bitCount_0f7a4 47 = .ok (.istore_n 0, 1) := by decide +kernel
theorem dJ6_bitCount_0f7a4_48 : decode cJ6_bitCount_0f7a4 48 = .ok (.iload_n 0, 1) := by decide +kernel
theorem dJ6_bitCount_0f7a4_49 : decode cJ6_bitCount_0f7a4 49 = .ok (.bipush 63, 2) := by decide +kernel
theorem dJ6_bitCount_0f7a4_51 : decode cJ6_bitCount_0f7a4 51 = .ok (.iand, 1) := by decide +kernel
theorem dJ6_bitCount_0f7a4_52 : decode cJ6_bitCount_0f7a4 52 = .ok (.ireturn, 1) := by decide +kernel
theorem dJ13_bitCount_95d88_0 : decode cJ13_bitCount_95d88 0 = .ok (.lload_n 0, 1) := by decide +kernel
theorem dJ13_bitCount_95d88_1 : decode cJ13_bitCount_95d88 1 = .ok (.lload_n 0, 1) := by decide +kernel
theorem dJ13_bitCount_95d88_2 : decode cJ13_bitCount_95d88 2 = .ok (.iconst 1, 1) := by decide +kernel
theorem dJ13_bitCount_95d88_3 : decode cJ13_bitCount_95d88 3 = .ok (.lushr, 1) := by decide +kernel
theorem dJ13_bitCount_95d88_4 : decode cJ13_bitCount_95d88 4 = .ok (.ldc2_w 314, 3) := by decide +kernel
theorem dJ13_bitCount_95d88_7 : decode cJ13_bitCount_95d88 7 = .ok (.land, 1) := by decide +kernel
theorem dJ13_bitCount_95d88_8 : decode cJ13_bitCount_95d88 8 = .ok (.lsub, 1) := by decide +kernel
theorem dJ13_bitCount_95d88_9 : decode cJ13_bitCount_95d88 9 = .ok (.lstore_n 0, 1) := by decide +kernel
theorem dJ13_bitCount_95d88_10 : decode cJ13_bitCount_95d88 10 = .ok (.lload_n 0, 1) := by decide +kernel
theorem dJ13_bitCount_95d88_11 : decode cJ13_bitCount_95d88 11 = .ok (.ldc2_w 316, 3) := by decide +kernel
theorem dJ13_bitCount_95d88_14 : decode cJ13_bitCount_95d88 14 = .ok (.land, 1) := by decide +kernel
theorem dJ13_bitCount_95d88_15 : decode cJ13_bitCount_95d88 15 = .ok (.lload_n 0, 1) := by decide +kernel
theorem dJ13_bitCount_95d88_16 : decode cJ13_bitCount_95d88 16 = .ok (.iconst 2, 1) := by decide +kernel
theorem dJ13_bitCount_95d88_17 : decode cJ13_bitCount_95d88 17 = .ok (.lushr, 1) := by decide +kernel
theorem dJ13_bitCount_95d88_18 : decode cJ13_bitCount_95d88 18 = .ok (.ldc2_w 316, 3) := by decide +kernel
theorem dJ13_bitCount_95d88_21 : decode cJ13_bitCount_95d88 21 = .ok (.land, 1) := by decide +kernel
theorem dJ13_bitCount_95d88_22 : decode cJ13_bitCount_95d88 22 = .ok (.ladd, 1) := by decide +kernel
theorem dJ13_bitCount_95d88_23 : decode cJ13_bitCount_95d88 23 = .ok (.lstore_n 0, 1) := by decide +kernel
theorem dJ13_bitCount_95d88_24 : decode cJ13_bitCount_95d88 24 = .ok (.lload_n 0, 1) := by decide +kernel
theorem dJ13_bitCount_95d88_25 : decode cJ13_bitCount_95d88 25 = .ok (.lload_n 0, 1) := by decide +kernel
theorem dJ13_bitCount_95d88_26 : decode cJ13_bitCount_95d88 26 = .ok (.iconst 4, 1) := by decide +kernel
theorem dJ13_bitCount_95d88_27 : decode cJ13_bitCount_95d88 27 = .ok (.lushr, 1) := by decide +kernel
theorem dJ13_bitCount_95d88_28 : decode cJ13_bitCount_95d88 28 = .ok (.ladd, 1) := by decide +kernel
theorem dJ13_bitCount_95d88_29 : decode cJ13_bitCount_95d88 29 = .ok (.ldc2_w 318, 3) := by decide +kernel
theorem dJ13_bitCount_95d88_32 : decode cJ13_bitCount_95d88 32 = .ok (.land, 1) := by decide +kernel
theorem dJ13_bitCount_95d88_33 : decode cJ13_bitCount_95d88 33 = .ok (.lstore_n 0, 1) := by decide +kernel
theorem dJ13_bitCount_95d88_34 : decode cJ13_bitCount_95d88 34 = .ok (.lload_n 0, 1) := by decide +kernel
theorem dJ13_bitCount_95d88_35 : decode cJ13_bitCount_95d88 35 = .ok (.lload_n 0, 1) := by decide +kernel
theorem dJ13_bitCount_95d88_36 : decode cJ13_bitCount_95d88 36 = .ok (.bipush 8, 2) := by decide +kernel
theorem dJ13_bitCount_95d88_38 : decode cJ13_bitCount_95d88 38 = .ok (.lushr, 1) := by decide +kernel
theorem dJ13_bitCount_95d88_39 : decode cJ13_bitCount_95d88 39 = .ok (.ladd, 1) := by decide +kernel
theorem dJ13_bitCount_95d88_40 : decode cJ13_bitCount_95d88 40 = .ok (.lstore_n 0, 1) := by decide +kernel
theorem dJ13_bitCount_95d88_41 : decode cJ13_bitCount_95d88 41 = .ok (.lload_n 0, 1) := by decide +kernel
theorem dJ13_bitCount_95d88_42 : decode cJ13_bitCount_95d88 42 = .ok (.lload_n 0, 1) := by decide +kernel
theorem dJ13_bitCount_95d88_43 : decode cJ13_bitCount_95d88 43 = .ok (.bipush 16, 2) := by decide +kernel
theorem dJ13_bitCount_95d88_45 : decode cJ13_bitCount_95d88 45 = .ok (.lushr, 1) := by decide +kernel
theorem dJ13_bitCount_95d88_46 : decode cJ13_bitCount_95d88 46 = .ok (.ladd, 1) := by decide +kernel
theorem dJ13_bitCount_95d88_47 : decode cJ13_bitCount_95d88 47 = .ok (.lstore_n 0, 1) := by decide +kernel
theorem dJ13_bitCount_95d88_48 : decode cJ13_bitCount_95d88 48 = .ok (.lload_n 0, 1) := by decide +kernel
theorem dJ13_bitCount_95d88_49 : decode cJ13_bitCount_95d88 49 = .ok (.lload_n 0, 1) := by decide +kernel
theorem dJ13_bitCount_95d88_50 : decode cJ13_bitCount_95d88 50 = .ok (.bipush 32, 2) := by decide +kernel
theorem dJ13_bitCount_95d88_52 : decode cJ13_bitCount_95d88 52 = .ok (.lushr, 1) := by decide +kernel
theorem dJ13_bitCount_95d88_53 : decode cJ13_bitCount_95d88 53 = .ok (.ladd, 1) := by decide +kernel
theorem dJ13_bitCount_95d88_54 : decode cJ13_bitCount_95d88 54 = .ok (.lstore_n 0, 1) := by decide +kernel
theorem dJ13_bitCount_95d88_55 : decode cJ13_bitCount_95d88 55 = .ok (.lload_n 0, 1) := by decide +kernel
theorem dJ13_bitCount_95d88_56 : decode cJ13_bitCount_95d88 56 = .ok (.l2i, 1) := by decide +kernel
theorem dJ13_bitCount_95d88_57 : decode cJ13_bitCount_95d88 57 = .ok (.bipush 127, 2) := by decide +kernel
theorem dJ13_bitCount_95d88_59 : decode cJ13_bitCount_95d88 59 = .ok (.iand, 1) := by decide +kernel
theorem dJ13_bitCount_95d88_60 : decode cJ13_bitCount_95d88 60 = .ok (.ireturn, 1) := by decide +kernel
theorem dJ9_max_7cf53_0 : decode cJ9_max_7cf53 0 = .ok (.iload_n 0, 1) := by decide +kernel
theorem dJ9_max_7cf53_1 : decode cJ9_max_7cf53 1 = .ok (.iload_n 1, 1) := by decide +kernel
theorem dJ9_max_7cf53_2 : decode cJ9_max_7cf53 2 = .ok (.if_icmp .lt 7, 3) := by decide +kernel
theorem dJ9_max_7cf53_5 : decode cJ9_max_7cf53 5 = .ok (.iload_n 0, 1) := by decide +kernel
theorem dJ9_max_7cf53_6 : decode cJ9_max_7cf53 6 = .ok (.goto 4, 3) := by decide +kernel
theorem dJ9_max_7cf53_9 : decode cJ9_max_7cf53 9 = .ok (.iload_n 1, 1) := by decide +kernel
theorem dJ9_max_7cf53_10 : decode cJ9_max_7cf53 10 = .ok (.ireturn, 1) := by decide +kernel
theorem dJ7_fill_d0a16_0 : decode cJ7_fill_d0a16 0 = .ok (.iconst 0, 1) := by decide +kernel
theorem dJ7_fill_d0a16_1 : decode cJ7_fill_d0a16 1 = .ok (.istore_n 3, 1) := by decide +kernel
theorem dJ7_fill_d0a16_2 : decode cJ7_fill_d0a16 2 = .ok (.aload_n 0, 1) := by decide +kernel
theorem dJ7_fill_d0a16_3 : decode cJ7_fill_d0a16 3 = .ok (.arraylength, 1) := by decide +kernel
theorem dJ7_fill_d0a16_4 : decode cJ7_fill_d0a16 4 = .ok (.istore 4, 2) := by decide +kernel
theorem dJ7_fill_d0a16_6 : decode cJ7_fill_d0a16 6 = .ok (.iload_n 3, 1) := by decide +kernel
theorem dJ7_fill_d0a16_7 : decode cJ7_fill_d0a16 7 = .ok (.iload 4, 2) := by decide +kernel
theorem dJ7_fill_d0a16_9 : decode cJ7_fill_d0a16 9 = .ok (.if_icmp .ge 13, 3) := by decide +kernel
theorem dJ7_fill_d0a16_12 : decode cJ7_fill_d0a16 12 = .ok (.aload_n 0, 1) := by decide +kernel
theorem dJ7_fill_d0a16_13 : decode cJ7_fill_d0a16 13 = .ok (.iload_n 3, 1) := by decide +kernel
theorem dJ7_fill_d0a16_14 : decode cJ7_fill_d0a16 14 = .ok (.lload_n 1, 1) := by decide +kernel
theorem dJ7_fill_d0a16_15 : decode cJ7_fill_d0a16 15 = .ok (.lastore, 1) := by decide +kernel
theorem dJ7_fill_d0a16_16 : decode cJ7_fill_d0a16 16 = .ok (.iinc 3 1, 3) := by decide +kernel
theorem dJ7_fill_d0a16_19 : decode cJ7_fill_d0a16 19 = .ok (.goto (-13), 3) := by decide +kernel
theorem dJ7_fill_d0a16_22 : decode cJ7_fill_d0a16 22 = .ok (.return_, 1) := by decide +kernel
/-! ===== END printed ===== -/
