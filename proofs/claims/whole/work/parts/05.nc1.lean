theorem dX5_init_0 : decode cX5_init 0 = .ok (.aload_n 0, 1) := by decide +kernel
theorem dX5_init_1 : decode cX5_init 1 = .ok (.invokespecial 1, 3) := by decide +kernel
theorem dX5_init_4 : decode cX5_init 4 = .ok (.aload_n 0, 1) := by decide +kernel
theorem dX5_init_5 : decode cX5_init 5 = .ok (.sipush 1547, 3) := by decide +kernel
theorem dX5_init_8 : decode cX5_init 8 = .ok (.newarray .int, 2) := by decide +kernel
theorem dX5_init_10 : decode cX5_init 10 = .ok (.putfield 7, 3) := by decide +kernel
theorem dX5_init_13 : decode cX5_init 13 = .ok (.aload_n 0, 1) := by decide +kernel
theorem dX5_init_14 : decode cX5_init 14 = .ok (.sipush 6188, 3) := by decide +kernel
theorem dX5_init_17 : decode cX5_init 17 = .ok (.newarray .int, 2) := by decide +kernel
theorem dX5_init_19 : decode cX5_init 19 = .ok (.putfield 13, 3) := by decide +kernel
theorem dX5_init_22 : decode cX5_init 22 = .ok (.aload_n 0, 1) := by decide +kernel
theorem dX5_init_23 : decode cX5_init 23 = .ok (.sipush 1547, 3) := by decide +kernel
theorem dX5_init_26 : decode cX5_init 26 = .ok (.newarray .int, 2) := by decide +kernel
theorem dX5_init_28 : decode cX5_init 28 = .ok (.putfield 16, 3) := by decide +kernel
theorem dX5_init_31 : decode cX5_init 31 = .ok (.aload_n 0, 1) := by decide +kernel
theorem dX5_init_32 : decode cX5_init 32 = .ok (.sipush 1547, 3) := by decide +kernel
theorem dX5_init_35 : decode cX5_init 35 = .ok (.newarray .int, 2) := by decide +kernel
theorem dX5_init_37 : decode cX5_init 37 = .ok (.putfield 19, 3) := by decide +kernel
theorem dX5_init_40 : decode cX5_init 40 = .ok (.aload_n 0, 1) := by decide +kernel
theorem dX5_init_41 : decode cX5_init 41 = .ok (.bipush 60, 2) := by decide +kernel
theorem dX5_init_43 : decode cX5_init 43 = .ok (.newarray .int, 2) := by decide +kernel
theorem dX5_init_45 : decode cX5_init 45 = .ok (.putfield 22, 3) := by decide +kernel
theorem dX5_init_48 : decode cX5_init 48 = .ok (.aload_n 0, 1) := by decide +kernel
theorem dX5_init_49 : decode cX5_init 49 = .ok (.bipush 30, 2) := by decide +kernel
theorem dX5_init_51 : decode cX5_init 51 = .ok (.newarray .int, 2) := by decide +kernel
theorem dX5_init_53 : decode cX5_init 53 = .ok (.putfield 25, 3) := by decide +kernel
theorem dX5_init_56 : decode cX5_init 56 = .ok (.aload_n 0, 1) := by decide +kernel
theorem dX5_init_57 : decode cX5_init 57 = .ok (.bipush 30, 2) := by decide +kernel
theorem dX5_init_59 : decode cX5_init 59 = .ok (.newarray .int, 2) := by decide +kernel
theorem dX5_init_61 : decode cX5_init 61 = .ok (.putfield 28, 3) := by decide +kernel
theorem dX5_init_64 : decode cX5_init 64 = .ok (.aload_n 0, 1) := by decide +kernel
theorem dX5_init_65 : decode cX5_init 65 = .ok (.bipush 64, 2) := by decide +kernel
theorem dX5_init_67 : decode cX5_init 67 = .ok (.newarray .int, 2) := by decide +kernel
theorem dX5_init_69 : decode cX5_init 69 = .ok (.putfield 31, 3) := by decide +kernel
theorem dX5_init_72 : decode cX5_init 72 = .ok (.aload_n 0, 1) := by decide +kernel
theorem dX5_init_73 : decode cX5_init 73 = .ok (.bipush 64, 2) := by decide +kernel
theorem dX5_init_75 : decode cX5_init 75 = .ok (.newarray .int, 2) := by decide +kernel
theorem dX5_init_77 : decode cX5_init 77 = .ok (.putfield 34, 3) := by decide +kernel
theorem dX5_init_80 : decode cX5_init 80 = .ok (.aload_n 0, 1) := by decide +kernel
theorem dX5_init_81 : decode cX5_init 81 = .ok (.bipush 64, 2) := by decide +kernel
theorem dX5_init_83 : decode cX5_init 83 = .ok (.newarray .int, 2) := by decide +kernel
theorem dX5_init_85 : decode cX5_init 85 = .ok (.putfield 37, 3) := by decide +kernel
theorem dX5_init_88 : decode cX5_init 88 = .ok (.aload_n 0, 1) := by decide +kernel
theorem dX5_init_89 : decode cX5_init 89 = .ok (.bipush 64, 2) := by decide +kernel
theorem dX5_init_91 : decode cX5_init 91 = .ok (.newarray .int, 2) := by decide +kernel
theorem dX5_init_93 : decode cX5_init 93 = .ok (.putfield 40, 3) := by decide +kernel
theorem dX5_init_96 : decode cX5_init 96 = .ok (.aload_n 0, 1) := by decide +kernel
theorem dX5_init_97 : decode cX5_init 97 = .ok (.bipush 64, 2) := by decide +kernel
theorem dX5_init_99 : decode cX5_init 99 = .ok (.newarray .int, 2) := by decide +kernel
theorem dX5_init_101 : decode cX5_init 101 = .ok (.putfield 43, 3) := by decide +kernel
theorem dX5_init_104 : decode cX5_init 104 = .ok (.aload_n 0, 1) := by decide +kernel
theorem dX5_init_105 : decode cX5_init 105 = .ok (.getfield 7, 3) := by decide +kernel
theorem dX5_init_108 : decode cX5_init 108 = .ok (.iconst 0, 1) := by decide +kernel
theorem dX5_init_109 : decode cX5_init 109 = .ok (.sipush 256, 3) := by decide +kernel
theorem dX5_init_112 : decode cX5_init 112 = .ok (.iastore, 1) := by decide +kernel
theorem dX5_init_113 : decode cX5_init 113 = .ok (.aload_n 0, 1) := by decide +kernel
theorem dX5_init_114 : decode cX5_init 114 = .ok (.getfield 7, 3) := by decide +kernel
theorem dX5_init_117 : decode cX5_init 117 = .ok (.iconst 1, 1) := by decide +kernel
theorem dX5_init_118 : decode cX5_init 118 = .ok (.bipush 16, 2) := by decide +kernel
theorem dX5_init_120 : decode cX5_init 120 = .ok (.iastore, 1) := by decide +kernel
theorem dX5_init_121 : decode cX5_init 121 = .ok (.aload_n 0, 1) := by decide +kernel
theorem dX5_init_122 : decode cX5_init 122 = .ok (.getfield 7, 3) := by decide +kernel
theorem dX5_init_125 : decode cX5_init 125 = .ok (.iconst 3, 1) := by decide +kernel
theorem dX5_init_126 : decode cX5_init 126 = .ok (.iconst 1, 1) := by decide +kernel
theorem dX5_init_127 : decode cX5_init 127 = .ok (.iastore, 1) := by decide +kernel
theorem dX5_init_128 : decode cX5_init 128 = .ok (.return_, 1) := by decide +kernel
theorem dX5_within_0 : decode cX5_within 0 = .ok (.iload_n 0, 1) := by decide +kernel
theorem dX5_within_1 : decode cX5_within 1 = .ok (.iload_n 1, 1) := by decide +kernel
theorem dX5_within_2 : decode cX5_within 2 = .ok (.if_icmp .lt 12, 3) := by decide +kernel
theorem dX5_within_5 : decode cX5_within 5 = .ok (.iload_n 0, 1) := by decide +kernel
theorem dX5_within_6 : decode cX5_within 6 = .ok (.iload_n 2, 1) := by decide +kernel
theorem dX5_within_7 : decode cX5_within 7 = .ok (.if_icmp .gt 7, 3) := by decide +kernel
theorem dX5_within_10 : decode cX5_within 10 = .ok (.iconst 1, 1) := by decide +kernel
theorem dX5_within_11 : decode cX5_within 11 = .ok (.goto 4, 3) := by decide +kernel
theorem dX5_within_14 : decode cX5_within 14 = .ok (.iconst 0, 1) := by decide +kernel
theorem dX5_within_15 : decode cX5_within 15 = .ok (.ireturn, 1) := by decide +kernel
theorem dX5_push_0 : decode cX5_push 0 = .ok (.aload_n 0, 1) := by decide +kernel
theorem dX5_push_1 : decode cX5_push 1 = .ok (.getfield 46, 3) := by decide +kernel
theorem dX5_push_4 : decode cX5_push 4 = .ok (.iconst 4, 1) := by decide +kernel
theorem dX5_push_5 : decode cX5_push 5 = .ok (.if_icmp .ne 44, 3) := by decide +kernel
theorem dX5_push_8 : decode cX5_push 8 = .ok (.iconst 0, 1) := by decide +kernel
theorem dX5_push_9 : decode cX5_push 9 = .ok (.istore_n 1, 1) := by decide +kernel
theorem dX5_push_10 : decode cX5_push 10 = .ok (.iload_n 1, 1) := by decide +kernel
theorem dX5_push_11 : decode cX5_push 11 = .ok (.sipush 4641, 3) := by decide +kernel
theorem dX5_push_14 : decode cX5_push 14 = .ok (.if_icmp .ge 25, 3) := by decide +kernel
theorem dX5_push_17 : decode cX5_push 17 = .ok (.aload_n 0, 1) := by decide +kernel
theorem dX5_push_18 : decode cX5_push 18 = .ok (.getfield 13, 3) := by decide +kernel
theorem dX5_push_21 : decode cX5_push 21 = .ok (.iload_n 1, 1) := by decide +kernel
theorem dX5_push_22 : decode cX5_push 22 = .ok (.aload_n 0, 1) := by decide +kernel
theorem dX5_push_23 : decode cX5_push 23 = .ok (.getfield 13, 3) := by decide +kernel
theorem dX5_push_26 : decode cX5_push 26 = .ok (.iload_n 1, 1) := by decide +kernel
theorem dX5_push_27 : decode cX5_push 27 = .ok (.sipush 1547, 3) := by decide +kernel
theorem dX5_push_30 : decode cX5_push 30 = .ok (.iadd, 1) := by decide +kernel
theorem dX5_push_31 : decode cX5_push 31 = .ok (.iaload, 1) := by decide +kernel
theorem dX5_push_32 : decode cX5_push 32 = .ok (.iastore, 1) := by decide +kernel
theorem dX5_push_33 : decode cX5_push 33 = .ok (.iinc 1 1, 3) := by decide +kernel
theorem dX5_push_36 : decode cX5_push 36 = .ok (.goto (-26), 3) := by decide +kernel
theorem dX5_push_39 : decode cX5_push 39 = .ok (.aload_n 0, 1) := by decide +kernel
theorem dX5_push_40 : decode cX5_push 40 = .ok (.dup, 1) := by decide +kernel
theorem dX5_push_41 : decode cX5_push 41 = .ok (.getfield 46, 3) := by decide +kernel
theorem dX5_push_44 : decode cX5_push 44 = .ok (.iconst 1, 1) := by decide +kernel
theorem dX5_push_45 : decode cX5_push 45 = .ok (.isub, 1) := by decide +kernel
theorem dX5_push_46 : decode cX5_push 46 = .ok (.putfield 46, 3) := by decide +kernel
theorem dX5_push_49 : decode cX5_push 49 = .ok (.iconst 0, 1) := by decide +kernel
theorem dX5_push_50 : decode cX5_push 50 = .ok (.istore_n 1, 1) := by decide +kernel
theorem dX5_push_51 : decode cX5_push 51 = .ok (.iload_n 1, 1) := by decide +kernel
theorem dX5_push_52 : decode cX5_push 52 = .ok (.sipush 1547, 3) := by decide +kernel
theorem dX5_push_55 : decode cX5_push 55 = .ok (.if_icmp .ge 30, 3) := by decide +kernel
theorem dX5_push_58 : decode cX5_push 58 = .ok (.aload_n 0, 1) := by decide +kernel
theorem dX5_push_59 : decode cX5_push 59 = .ok (.getfield 13, 3) := by decide +kernel
theorem dX5_push_62 : decode cX5_push 62 = .ok (.aload_n 0, 1) := by decide +kernel
theorem dX5_push_63 : decode cX5_push 63 = .ok (.getfield 46, 3) := by decide +kernel
theorem dX5_push_66 : decode cX5_push 66 = .ok (.sipush 1547, 3) := by decide +kernel
theorem dX5_push_69 : decode cX5_push 69 = .ok (.imul, 1) := by decide +kernel
theorem dX5_push_70 : decode cX5_push 70 = .ok (.iload_n 1, 1) := by decide +kernel
theorem dX5_push_71 : decode cX5_push 71 = .ok (.iadd, 1) := by decide +kernel
theorem dX5_push_72 : decode cX5_push 72 = .ok (.aload_n 0, 1) := by decide +kernel
theorem dX5_push_73 : decode cX5_push 73 = .ok (.getfield 19, 3) := by decide +kernel
theorem dX5_push_76 : decode cX5_push 76 = .ok (.iload_n 1, 1) := by decide +kernel
theorem dX5_push_77 : decode cX5_push 77 = .ok (.iaload, 1) := by decide +kernel
theorem dX5_push_78 : decode cX5_push 78 = .ok (.iastore, 1) := by decide +kernel
theorem dX5_push_79 : decode cX5_push 79 = .ok (.iinc 1 1, 3) := by decide +kernel
theorem dX5_push_82 : decode cX5_push 82 = .ok (.goto (-31), 3) := by decide +kernel
theorem dX5_push_85 : decode cX5_push 85 = .ok (.aload_n 0, 1) := by decide +kernel
theorem dX5_push_86 : decode cX5_push 86 = .ok (.dup, 1) := by decide +kernel
theorem dX5_push_87 : decode cX5_push 87 = .ok (.getfield 46, 3) := by decide +kernel
theorem dX5_push_90 : decode cX5_push 90 = .ok (.iconst 1, 1) := by decide +kernel
theorem dX5_push_91 : decode cX5_push 91 = .ok (.iadd, 1) := by decide +kernel
theorem dX5_push_92 : decode cX5_push 92 = .ok (.putfield 46, 3) := by decide +kernel
theorem dX5_push_95 : decode cX5_push 95 = .ok (.return_, 1) := by decide +kernel
theorem dX5_putAside_0 : decode cX5_putAside 0 = .ok (.iconst 0, 1) := by decide +kernel
theorem dX5_putAside_1 : decode cX5_putAside 1 = .ok (.istore_n 1, 1) := by decide +kernel
theorem dX5_putAside_2 : decode cX5_putAside 2 = .ok (.iload_n 1, 1) := by decide +kernel
theorem dX5_putAside_3 : decode cX5_putAside 3 = .ok (.sipush 1547, 3) := by decide +kernel
theorem dX5_putAside_6 : decode cX5_putAside 6 = .ok (.if_icmp .ge 21, 3) := by decide +kernel
theorem dX5_putAside_9 : decode cX5_putAside 9 = .ok (.aload_n 0, 1) := by decide +kernel
theorem dX5_putAside_10 : decode cX5_putAside 10 = .ok (.getfield 19, 3) := by decide +kernel
theorem dX5_putAside_13 : decode cX5_putAside 13 = .ok (.iload_n 1, 1) := by decide +kernel
theorem dX5_putAside_14 : decode cX5_putAside 14 = .ok (.aload_n 0, 1) := by decide +kernel
theorem dX5_putAside_15 : decode cX5_putAside 15 = .ok (.getfield 7, 3) := by decide +kernel
theorem dX5_putAside_18 : decode cX5_putAside 18 = .ok (.iload_n 1, 1) := by decide +kernel
theorem dX5_putAside_19 : decode cX5_putAside 19 = .ok (.iaload, 1) := by decide +kernel
theorem dX5_putAside_20 : decode cX5_putAside 20 = .ok (.iastore, 1) := by decide +kernel
theorem dX5_putAside_21 : decode cX5_putAside 21 = .ok (.iinc 1 1, 3) := by decide +kernel
theorem dX5_putAside_24 : decode cX5_putAside 24 = .ok (.goto (-22), 3) := by decide +kernel
theorem dX5_putAside_27 : decode cX5_putAside 27 = .ok (.return_, 1) := by decide +kernel
theorem dX5_takeBack_0 : decode cX5_takeBack 0 = .ok (.iconst 0, 1) := by decide +kernel
theorem dX5_takeBack_1 : decode cX5_takeBack 1 = .ok (.istore_n 1, 1) := by decide +kernel
theorem dX5_takeBack_2 : decode cX5_takeBack 2 = .ok (.iload_n 1, 1) := by decide +kernel
theorem dX5_takeBack_3 : decode cX5_takeBack 3 = .ok (.sipush 1547, 3) := by decide +kernel
theorem dX5_takeBack_6 : decode cX5_takeBack 6 = .ok (.if_icmp .ge 21, 3) := by decide +kernel
theorem dX5_takeBack_9 : decode cX5_takeBack 9 = .ok (.aload_n 0, 1) := by decide +kernel
theorem dX5_takeBack_10 : decode cX5_takeBack 10 = .ok (.getfield 7, 3) := by decide +kernel
theorem dX5_takeBack_13 : decode cX5_takeBack 13 = .ok (.iload_n 1, 1) := by decide +kernel
theorem dX5_takeBack_14 : decode cX5_takeBack 14 = .ok (.aload_n 0, 1) := by decide +kernel
theorem dX5_takeBack_15 : decode cX5_takeBack 15 = .ok (.getfield 19, 3) := by decide +kernel
theorem dX5_takeBack_18 : decode cX5_takeBack 18 = .ok (.iload_n 1, 1) := by decide +kernel
theorem dX5_takeBack_19 : decode cX5_takeBack 19 = .ok (.iaload, 1) := by decide +kernel
theorem dX5_takeBack_20 : decode cX5_takeBack 20 = .ok (.iastore, 1) := by decide +kernel
theorem dX5_takeBack_21 : decode cX5_takeBack 21 = .ok (.iinc 1 1, 3) := by decide +kernel
theorem dX5_takeBack_24 : decode cX5_takeBack 24 = .ok (.goto (-22), 3) := by decide +kernel
theorem dX5_takeBack_27 : decode cX5_takeBack 27 = .ok (.return_, 1) := by decide +kernel
set_option maxRecDepth 20000 in
theorem ggX5_record_X5_putAside : GoodIn wsX5_record wsX5_putAside := goodIn_r _ [5, 6, 7, 14, 15, 16, 17, 18, 19, 20, 21, 22, 23, 24, 25, 26, 27, 28, 29, 30, 31, 32, 33] (by decide +kernel) (by decide +kernel)
set_option maxRecDepth 20000 in
theorem gX5_record_X5_putAside : GoodIn wsX5_record (wsV RX5 50 RX5 yX5_putAside wsX5_putAside) := goodIn_app (goodIn_of _ (by decide +kernel)) ggX5_record_X5_putAside
set_option maxRecDepth 20000 in
theorem ggX5_record_X5_push : GoodIn wsX5_record wsX5_push := goodIn_r _ [11, 12, 13, 6, 14, 15, 16, 17, 18, 19, 20, 21, 22, 23, 24, 25, 26, 27, 28, 29, 30, 31, 32, 33] (by decide +kernel) (by decide +kernel)
set_option maxRecDepth 20000 in
theorem gX5_record_X5_push : GoodIn wsX5_record (wsV RX5 53 RX5 yX5_push wsX5_push) := goodIn_app (goodIn_of _ (by decide +kernel)) ggX5_record_X5_push
theorem dX5_record_0 : decode cX5_record 0 = .ok (.aload_n 0, 1) := by decide +kernel
theorem dX5_record_1 : decode cX5_record 1 = .ok (.invokevirtual 50, 3) := by decide +kernel
theorem dX5_record_4 : decode cX5_record 4 = .ok (.aload_n 0, 1) := by decide +kernel
theorem dX5_record_5 : decode cX5_record 5 = .ok (.invokevirtual 53, 3) := by decide +kernel
theorem dX5_record_8 : decode cX5_record 8 = .ok (.return_, 1) := by decide +kernel
theorem dX5_undo_0 : decode cX5_undo 0 = .ok (.aload_n 0, 1) := by decide +kernel
theorem dX5_undo_1 : decode cX5_undo 1 = .ok (.getfield 46, 3) := by decide +kernel
theorem dX5_undo_4 : decode cX5_undo 4 = .ok (.ifCond .ne 6, 3) := by decide +kernel
theorem dX5_undo_7 : decode cX5_undo 7 = .ok (.bipush (-5), 2) := by decide +kernel
theorem dX5_undo_9 : decode cX5_undo 9 = .ok (.ireturn, 1) := by decide +kernel
theorem dX5_undo_10 : decode cX5_undo 10 = .ok (.aload_n 0, 1) := by decide +kernel
theorem dX5_undo_11 : decode cX5_undo 11 = .ok (.dup, 1) := by decide +kernel
theorem dX5_undo_12 : decode cX5_undo 12 = .ok (.getfield 46, 3) := by decide +kernel
theorem dX5_undo_15 : decode cX5_undo 15 = .ok (.iconst 1, 1) := by decide +kernel
theorem dX5_undo_16 : decode cX5_undo 16 = .ok (.isub, 1) := by decide +kernel
theorem dX5_undo_17 : decode cX5_undo 17 = .ok (.putfield 46, 3) := by decide +kernel
theorem dX5_undo_20 : decode cX5_undo 20 = .ok (.iconst 0, 1) := by decide +kernel
theorem dX5_undo_21 : decode cX5_undo 21 = .ok (.istore_n 1, 1) := by decide +kernel
theorem dX5_undo_22 : decode cX5_undo 22 = .ok (.iload_n 1, 1) := by decide +kernel
theorem dX5_undo_23 : decode cX5_undo 23 = .ok (.sipush 1547, 3) := by decide +kernel
theorem dX5_undo_26 : decode cX5_undo 26 = .ok (.if_icmp .ge 30, 3) := by decide +kernel
theorem dX5_undo_29 : decode cX5_undo 29 = .ok (.aload_n 0, 1) := by decide +kernel
theorem dX5_undo_30 : decode cX5_undo 30 = .ok (.getfield 7, 3) := by decide +kernel
theorem dX5_undo_33 : decode cX5_undo 33 = .ok (.iload_n 1, 1) := by decide +kernel
theorem dX5_undo_34 : decode cX5_undo 34 = .ok (.aload_n 0, 1) := by decide +kernel
theorem dX5_undo_35 : decode cX5_undo 35 = .ok (.getfield 13, 3) := by decide +kernel
theorem dX5_undo_38 : decode cX5_undo 38 = .ok (.aload_n 0, 1) := by decide +kernel
theorem dX5_undo_39 : decode cX5_undo 39 = .ok (.getfield 46, 3) := by decide +kernel
theorem dX5_undo_42 : decode cX5_undo 42 = .ok (.sipush 1547, 3) := by decide +kernel
theorem dX5_undo_45 : decode cX5_undo 45 = .ok (.imul, 1) := by decide +kernel
theorem dX5_undo_46 : decode cX5_undo 46 = .ok (.iload_n 1, 1) := by decide +kernel
theorem dX5_undo_47 : decode cX5_undo 47 = .ok (.iadd, 1) := by decide +kernel
theorem dX5_undo_48 : decode cX5_undo 48 = .ok (.iaload, 1) := by decide +kernel
theorem dX5_undo_49 : decode cX5_undo 49 = .ok (.iastore, 1) := by decide +kernel
theorem dX5_undo_50 : decode cX5_undo 50 = .ok (.iinc 1 1, 3) := by decide +kernel
theorem dX5_undo_53 : decode cX5_undo 53 = .ok (.goto (-31), 3) := by decide +kernel
theorem dX5_undo_56 : decode cX5_undo 56 = .ok (.aload_n 0, 1) := by decide +kernel
theorem dX5_undo_57 : decode cX5_undo 57 = .ok (.getfield 46, 3) := by decide +kernel
theorem dX5_undo_60 : decode cX5_undo 60 = .ok (.ireturn, 1) := by decide +kernel
theorem dX5_keep_0 : decode cX5_keep 0 = .ok (.iconst 0, 1) := by decide +kernel
theorem dX5_keep_1 : decode cX5_keep 1 = .ok (.istore_n 1, 1) := by decide +kernel
theorem dX5_keep_2 : decode cX5_keep 2 = .ok (.iload_n 1, 1) := by decide +kernel
theorem dX5_keep_3 : decode cX5_keep 3 = .ok (.sipush 1547, 3) := by decide +kernel
theorem dX5_keep_6 : decode cX5_keep 6 = .ok (.if_icmp .ge 21, 3) := by decide +kernel
theorem dX5_keep_9 : decode cX5_keep 9 = .ok (.aload_n 0, 1) := by decide +kernel
theorem dX5_keep_10 : decode cX5_keep 10 = .ok (.getfield 16, 3) := by decide +kernel
theorem dX5_keep_13 : decode cX5_keep 13 = .ok (.iload_n 1, 1) := by decide +kernel
theorem dX5_keep_14 : decode cX5_keep 14 = .ok (.aload_n 0, 1) := by decide +kernel
theorem dX5_keep_15 : decode cX5_keep 15 = .ok (.getfield 7, 3) := by decide +kernel
theorem dX5_keep_18 : decode cX5_keep 18 = .ok (.iload_n 1, 1) := by decide +kernel
theorem dX5_keep_19 : decode cX5_keep 19 = .ok (.iaload, 1) := by decide +kernel
theorem dX5_keep_20 : decode cX5_keep 20 = .ok (.iastore, 1) := by decide +kernel
theorem dX5_keep_21 : decode cX5_keep 21 = .ok (.iinc 1 1, 3) := by decide +kernel
theorem dX5_keep_24 : decode cX5_keep 24 = .ok (.goto (-22), 3) := by decide +kernel
theorem dX5_keep_27 : decode cX5_keep 27 = .ok (.aload_n 0, 1) := by decide +kernel
theorem dX5_keep_28 : decode cX5_keep 28 = .ok (.iconst 1, 1) := by decide +kernel
theorem dX5_keep_29 : decode cX5_keep 29 = .ok (.putfield 56, 3) := by decide +kernel
theorem dX5_keep_32 : decode cX5_keep 32 = .ok (.aload_n 0, 1) := by decide +kernel
theorem dX5_keep_33 : decode cX5_keep 33 = .ok (.getfield 7, 3) := by decide +kernel
theorem dX5_keep_36 : decode cX5_keep 36 = .ok (.iconst 5, 1) := by decide +kernel
theorem dX5_keep_37 : decode cX5_keep 37 = .ok (.iaload, 1) := by decide +kernel
theorem dX5_keep_38 : decode cX5_keep 38 = .ok (.ireturn, 1) := by decide +kernel
set_option maxRecDepth 20000 in
theorem ggX5_restore_X5_record : GoodIn wsX5_restore wsX5_record := goodIn_r _ [8, 9, 10, 11, 7, 12, 13, 2, 14, 15, 16, 17, 18, 19, 20, 21, 22, 23, 24, 25, 26, 27, 28, 29, 30, 31, 32, 33, 34, 35, 36, 37, 38, 39] (by decide +kernel) (by decide +kernel)
set_option maxRecDepth 20000 in
theorem gX5_restore_X5_record : GoodIn wsX5_restore (wsV RX5 60 RX5 yX5_record wsX5_record) := goodIn_app (goodIn_of _ (by decide +kernel)) ggX5_restore_X5_record
theorem dX5_restore_0 : decode cX5_restore 0 = .ok (.aload_n 0, 1) := by decide +kernel
theorem dX5_restore_1 : decode cX5_restore 1 = .ok (.getfield 56, 3) := by decide +kernel
theorem dX5_restore_4 : decode cX5_restore 4 = .ok (.ifCond .ne 6, 3) := by decide +kernel
theorem dX5_restore_7 : decode cX5_restore 7 = .ok (.bipush (-5), 2) := by decide +kernel
theorem dX5_restore_9 : decode cX5_restore 9 = .ok (.ireturn, 1) := by decide +kernel
theorem dX5_restore_10 : decode cX5_restore 10 = .ok (.aload_n 0, 1) := by decide +kernel
theorem dX5_restore_11 : decode cX5_restore 11 = .ok (.invokevirtual 60, 3) := by decide +kernel
theorem dX5_restore_14 : decode cX5_restore 14 = .ok (.iconst 0, 1) := by decide +kernel
theorem dX5_restore_15 : decode cX5_restore 15 = .ok (.istore_n 1, 1) := by decide +kernel
theorem dX5_restore_16 : decode cX5_restore 16 = .ok (.iload_n 1, 1) := by decide +kernel
theorem dX5_restore_17 : decode cX5_restore 17 = .ok (.sipush 1547, 3) := by decide +kernel
theorem dX5_restore_20 : decode cX5_restore 20 = .ok (.if_icmp .ge 21, 3) := by decide +kernel
theorem dX5_restore_23 : decode cX5_restore 23 = .ok (.aload_n 0, 1) := by decide +kernel
theorem dX5_restore_24 : decode cX5_restore 24 = .ok (.getfield 7, 3) := by decide +kernel
theorem dX5_restore_27 : decode cX5_restore 27 = .ok (.iload_n 1, 1) := by decide +kernel
theorem dX5_restore_28 : decode cX5_restore 28 = .ok (.aload_n 0, 1) := by decide +kernel
theorem dX5_restore_29 : decode cX5_restore 29 = .ok (.getfield 16, 3) := by decide +kernel
theorem dX5_restore_32 : decode cX5_restore 32 = .ok (.iload_n 1, 1) := by decide +kernel
theorem dX5_restore_33 : decode cX5_restore 33 = .ok (.iaload, 1) := by decide +kernel
theorem dX5_restore_34 : decode cX5_restore 34 = .ok (.iastore, 1) := by decide +kernel
theorem dX5_restore_35 : decode cX5_restore 35 = .ok (.iinc 1 1, 3) := by decide +kernel
theorem dX5_restore_38 : decode cX5_restore 38 = .ok (.goto (-22), 3) := by decide +kernel
theorem dX5_restore_41 : decode cX5_restore 41 = .ok (.aload_n 0, 1) := by decide +kernel
theorem dX5_restore_42 : decode cX5_restore 42 = .ok (.getfield 7, 3) := by decide +kernel
theorem dX5_restore_45 : decode cX5_restore 45 = .ok (.iconst 5, 1) := by decide +kernel
theorem dX5_restore_46 : decode cX5_restore 46 = .ok (.iaload, 1) := by decide +kernel
theorem dX5_restore_47 : decode cX5_restore 47 = .ok (.ireturn, 1) := by decide +kernel
theorem dX5_ones_0 : decode cX5_ones 0 = .ok (.iconst 0, 1) := by decide +kernel
theorem dX5_ones_1 : decode cX5_ones 1 = .ok (.istore_n 1, 1) := by decide +kernel
theorem dX5_ones_2 : decode cX5_ones 2 = .ok (.iconst 0, 1) := by decide +kernel
theorem dX5_ones_3 : decode cX5_ones 3 = .ok (.istore_n 2, 1) := by decide +kernel
theorem dX5_ones_4 : decode cX5_ones 4 = .ok (.iload_n 2, 1) := by decide +kernel
theorem dX5_ones_5 : decode cX5_ones 5 = .ok (.bipush 8, 2) := by decide +kernel
theorem dX5_ones_7 : decode cX5_ones 7 = .ok (.if_icmp .ge 17, 3) := by decide +kernel
theorem dX5_ones_10 : decode cX5_ones 10 = .ok (.iload_n 1, 1) := by decide +kernel
theorem dX5_ones_11 : decode cX5_ones 11 = .ok (.iload_n 0, 1) := by decide +kernel
theorem dX5_ones_12 : decode cX5_ones 12 = .ok (.iload_n 2, 1) := by decide +kernel
theorem dX5_ones_13 : decode cX5_ones 13 = .ok (.ishr, 1) := by decide +kernel
theorem dX5_ones_14 : decode cX5_ones 14 = .ok (.iconst 1, 1) := by decide +kernel
theorem dX5_ones_15 : decode cX5_ones 15 = .ok (.iand, 1) := by decide +kernel
theorem dX5_ones_16 : decode cX5_ones 16 = .ok (.iadd, 1) := by decide +kernel
theorem dX5_ones_17 : decode cX5_ones 17 = .ok (.istore_n 1, 1) := by decide +kernel
theorem dX5_ones_18 : decode cX5_ones 18 = .ok (.iinc 2 1, 3) := by decide +kernel
theorem dX5_ones_21 : decode cX5_ones 21 = .ok (.goto (-17), 3) := by decide +kernel
theorem dX5_ones_24 : decode cX5_ones 24 = .ok (.iload_n 1, 1) := by decide +kernel
theorem dX5_ones_25 : decode cX5_ones 25 = .ok (.ireturn, 1) := by decide +kernel
set_option maxRecDepth 20000 in
theorem ggX5_parityOf_X5_ones : GoodIn wsX5_parityOf wsX5_ones := goodIn_r _ [5] (by decide +kernel) (by decide +kernel)
set_option maxRecDepth 20000 in
theorem gX5_parityOf_X5_ones : GoodIn wsX5_parityOf (va_wsS RX5 63 yX5_ones wsX5_ones) := goodIn_app (goodIn_of _ (by decide +kernel)) ggX5_parityOf_X5_ones
theorem dX5_parityOf_0 : decode cX5_parityOf 0 = .ok (.iload_n 1, 1) := by decide +kernel
theorem dX5_parityOf_1 : decode cX5_parityOf 1 = .ok (.invokestatic 63, 3) := by decide +kernel
theorem dX5_parityOf_4 : decode cX5_parityOf 4 = .ok (.iconst 2, 1) := by decide +kernel
theorem dX5_parityOf_5 : decode cX5_parityOf 5 = .ok (.irem, 1) := by decide +kernel
theorem dX5_parityOf_6 : decode cX5_parityOf 6 = .ok (.istore_n 2, 1) := by decide +kernel
theorem dX5_parityOf_7 : decode cX5_parityOf 7 = .ok (.aload_n 0, 1) := by decide +kernel
theorem dX5_parityOf_8 : decode cX5_parityOf 8 = .ok (.getfield 7, 3) := by decide +kernel
theorem dX5_parityOf_11 : decode cX5_parityOf 11 = .ok (.iconst 2, 1) := by decide +kernel
theorem dX5_parityOf_12 : decode cX5_parityOf 12 = .ok (.iaload, 1) := by decide +kernel
theorem dX5_parityOf_13 : decode cX5_parityOf 13 = .ok (.iconst 1, 1) := by decide +kernel
theorem dX5_parityOf_14 : decode cX5_parityOf 14 = .ok (.if_icmp .ne 7, 3) := by decide +kernel
theorem dX5_parityOf_17 : decode cX5_parityOf 17 = .ok (.iload_n 2, 1) := by decide +kernel
theorem dX5_parityOf_18 : decode cX5_parityOf 18 = .ok (.goto 6, 3) := by decide +kernel
theorem dX5_parityOf_21 : decode cX5_parityOf 21 = .ok (.iconst 1, 1) := by decide +kernel
theorem dX5_parityOf_22 : decode cX5_parityOf 22 = .ok (.iload_n 2, 1) := by decide +kernel
theorem dX5_parityOf_23 : decode cX5_parityOf 23 = .ok (.isub, 1) := by decide +kernel
theorem dX5_parityOf_24 : decode cX5_parityOf 24 = .ok (.ireturn, 1) := by decide +kernel
set_option maxRecDepth 20000 in
theorem ggX5_bitsOf_X5_parityOf : GoodIn wsX5_bitsOf wsX5_parityOf := goodIn_r _ [6, 1, 7, 8, 5, 9, 10, 11, 12, 13, 14, 15, 16, 17, 18, 19, 20, 21, 22, 23, 24, 25, 26, 27, 28, 29] (by decide +kernel) (by decide +kernel)
set_option maxRecDepth 20000 in
theorem gX5_bitsOf_X5_parityOf : GoodIn wsX5_bitsOf (wsV RX5 67 RX5 yX5_parityOf wsX5_parityOf) := goodIn_app (goodIn_of _ (by decide +kernel)) ggX5_bitsOf_X5_parityOf
theorem dX5_bitsOf_0 : decode cX5_bitsOf 0 = .ok (.iload_n 1, 1) := by decide +kernel
theorem dX5_bitsOf_1 : decode cX5_bitsOf 1 = .ok (.iconst 1, 1) := by decide +kernel
theorem dX5_bitsOf_2 : decode cX5_bitsOf 2 = .ok (.ishl, 1) := by decide +kernel
theorem dX5_bitsOf_3 : decode cX5_bitsOf 3 = .ok (.istore_n 2, 1) := by decide +kernel
theorem dX5_bitsOf_4 : decode cX5_bitsOf 4 = .ok (.bipush 9, 2) := by decide +kernel
theorem dX5_bitsOf_6 : decode cX5_bitsOf 6 = .ok (.istore_n 3, 1) := by decide +kernel
theorem dX5_bitsOf_7 : decode cX5_bitsOf 7 = .ok (.aload_n 0, 1) := by decide +kernel
theorem dX5_bitsOf_8 : decode cX5_bitsOf 8 = .ok (.getfield 7, 3) := by decide +kernel
theorem dX5_bitsOf_11 : decode cX5_bitsOf 11 = .ok (.iconst 2, 1) := by decide +kernel
theorem dX5_bitsOf_12 : decode cX5_bitsOf 12 = .ok (.iaload, 1) := by decide +kernel
theorem dX5_bitsOf_13 : decode cX5_bitsOf 13 = .ok (.ifCond .le 17, 3) := by decide +kernel
theorem dX5_bitsOf_16 : decode cX5_bitsOf 16 = .ok (.iload_n 2, 1) := by decide +kernel
theorem dX5_bitsOf_17 : decode cX5_bitsOf 17 = .ok (.aload_n 0, 1) := by decide +kernel
theorem dX5_bitsOf_18 : decode cX5_bitsOf 18 = .ok (.iload_n 1, 1) := by decide +kernel
theorem dX5_bitsOf_19 : decode cX5_bitsOf 19 = .ok (.invokevirtual 67, 3) := by decide +kernel
theorem dX5_bitsOf_22 : decode cX5_bitsOf 22 = .ok (.bipush 9, 2) := by decide +kernel
theorem dX5_bitsOf_24 : decode cX5_bitsOf 24 = .ok (.ishl, 1) := by decide +kernel
theorem dX5_bitsOf_25 : decode cX5_bitsOf 25 = .ok (.ior, 1) := by decide +kernel
theorem dX5_bitsOf_26 : decode cX5_bitsOf 26 = .ok (.istore_n 2, 1) := by decide +kernel
theorem dX5_bitsOf_27 : decode cX5_bitsOf 27 = .ok (.bipush 10, 2) := by decide +kernel
theorem dX5_bitsOf_29 : decode cX5_bitsOf 29 = .ok (.istore_n 3, 1) := by decide +kernel
theorem dX5_bitsOf_30 : decode cX5_bitsOf 30 = .ok (.iload_n 2, 1) := by decide +kernel
theorem dX5_bitsOf_31 : decode cX5_bitsOf 31 = .ok (.iconst 3, 1) := by decide +kernel
theorem dX5_bitsOf_32 : decode cX5_bitsOf 32 = .ok (.iload_n 3, 1) := by decide +kernel
theorem dX5_bitsOf_33 : decode cX5_bitsOf 33 = .ok (.ishl, 1) := by decide +kernel
theorem dX5_bitsOf_34 : decode cX5_bitsOf 34 = .ok (.ior, 1) := by decide +kernel
theorem dX5_bitsOf_35 : decode cX5_bitsOf 35 = .ok (.ireturn, 1) := by decide +kernel
theorem dX5_bitMany_0 : decode cX5_bitMany 0 = .ok (.bipush 9, 2) := by decide +kernel
theorem dX5_bitMany_2 : decode cX5_bitMany 2 = .ok (.aload_n 0, 1) := by decide +kernel
theorem dX5_bitMany_3 : decode cX5_bitMany 3 = .ok (.getfield 7, 3) := by decide +kernel
theorem dX5_bitMany_6 : decode cX5_bitMany 6 = .ok (.iconst 2, 1) := by decide +kernel
theorem dX5_bitMany_7 : decode cX5_bitMany 7 = .ok (.iaload, 1) := by decide +kernel
theorem dX5_bitMany_8 : decode cX5_bitMany 8 = .ok (.ifCond .le 7, 3) := by decide +kernel
theorem dX5_bitMany_11 : decode cX5_bitMany 11 = .ok (.iconst 1, 1) := by decide +kernel
theorem dX5_bitMany_12 : decode cX5_bitMany 12 = .ok (.goto 4, 3) := by decide +kernel
theorem dX5_bitMany_15 : decode cX5_bitMany 15 = .ok (.iconst 0, 1) := by decide +kernel
theorem dX5_bitMany_16 : decode cX5_bitMany 16 = .ok (.iadd, 1) := by decide +kernel
theorem dX5_bitMany_17 : decode cX5_bitMany 17 = .ok (.aload_n 0, 1) := by decide +kernel
theorem dX5_bitMany_18 : decode cX5_bitMany 18 = .ok (.getfield 7, 3) := by decide +kernel
theorem dX5_bitMany_21 : decode cX5_bitMany 21 = .ok (.iconst 3, 1) := by decide +kernel
theorem dX5_bitMany_22 : decode cX5_bitMany 22 = .ok (.iaload, 1) := by decide +kernel
theorem dX5_bitMany_23 : decode cX5_bitMany 23 = .ok (.iadd, 1) := by decide +kernel
theorem dX5_bitMany_24 : decode cX5_bitMany 24 = .ok (.ireturn, 1) := by decide +kernel
theorem dX5_lengthOf_0 : decode cX5_lengthOf 0 = .ok (.iload_n 1, 1) := by decide +kernel
theorem dX5_lengthOf_1 : decode cX5_lengthOf 1 = .ok (.aload_n 0, 1) := by decide +kernel
theorem dX5_lengthOf_2 : decode cX5_lengthOf 2 = .ok (.getfield 7, 3) := by decide +kernel
theorem dX5_lengthOf_5 : decode cX5_lengthOf 5 = .ok (.iconst 0, 1) := by decide +kernel
theorem dX5_lengthOf_6 : decode cX5_lengthOf 6 = .ok (.iaload, 1) := by decide +kernel
theorem dX5_lengthOf_7 : decode cX5_lengthOf 7 = .ok (.imul, 1) := by decide +kernel
theorem dX5_lengthOf_8 : decode cX5_lengthOf 8 = .ok (.bipush 16, 2) := by decide +kernel
theorem dX5_lengthOf_10 : decode cX5_lengthOf 10 = .ok (.idiv, 1) := by decide +kernel
theorem dX5_lengthOf_11 : decode cX5_lengthOf 11 = .ok (.ireturn, 1) := by decide +kernel
set_option maxRecDepth 20000 in
theorem ggX5_putWord_X5_bitMany : GoodIn wsX5_putWord wsX5_bitMany := goodIn_r _ [6, 1, 22, 23, 24, 25, 26, 27, 28, 29, 30, 31, 32, 33, 34, 35, 36, 37, 38, 39, 40, 41] (by decide +kernel) (by decide +kernel)
set_option maxRecDepth 20000 in
theorem gX5_putWord_X5_bitMany : GoodIn wsX5_putWord (wsV RX5 70 RX5 yX5_bitMany wsX5_bitMany) := goodIn_app (goodIn_of _ (by decide +kernel)) ggX5_putWord_X5_bitMany
set_option maxRecDepth 20000 in
theorem ggX5_putWord_X5_lengthOf : GoodIn wsX5_putWord wsX5_lengthOf := goodIn_r _ [10, 1, 22, 23, 24, 25, 26, 27, 28, 29, 30, 31, 32, 33, 34, 35, 36, 37, 38, 39, 40, 41] (by decide +kernel) (by decide +kernel)
set_option maxRecDepth 20000 in
theorem gX5_putWord_X5_lengthOf : GoodIn wsX5_putWord (wsV RX5 74 RX5 yX5_lengthOf wsX5_lengthOf) := goodIn_app (goodIn_of _ (by decide +kernel)) ggX5_putWord_X5_lengthOf
set_option maxRecDepth 20000 in
theorem ggX5_putWord_X5_bitsOf : GoodIn wsX5_putWord wsX5_bitsOf := goodIn_r _ [14, 1, 15, 16, 17, 5, 18, 19, 20, 21, 22, 23, 24, 25, 26, 27, 28, 29, 30, 31, 32, 33, 34, 35, 36, 37, 38, 39, 40, 41] (by decide +kernel) (by decide +kernel)
set_option maxRecDepth 20000 in
theorem gX5_putWord_X5_bitsOf : GoodIn wsX5_putWord (wsV RX5 77 RX5 yX5_bitsOf wsX5_bitsOf) := goodIn_app (goodIn_of _ (by decide +kernel)) ggX5_putWord_X5_bitsOf
theorem dX5_putWord_0 : decode cX5_putWord 0 = .ok (.aload_n 0, 1) := by decide +kernel
theorem dX5_putWord_1 : decode cX5_putWord 1 = .ok (.getfield 7, 3) := by decide +kernel
theorem dX5_putWord_4 : decode cX5_putWord 4 = .ok (.iconst 5, 1) := by decide +kernel
theorem dX5_putWord_5 : decode cX5_putWord 5 = .ok (.iaload, 1) := by decide +kernel
theorem dX5_putWord_6 : decode cX5_putWord 6 = .ok (.istore_n 2, 1) := by decide +kernel
theorem dX5_putWord_7 : decode cX5_putWord 7 = .ok (.aload_n 0, 1) := by decide +kernel
theorem dX5_putWord_8 : decode cX5_putWord 8 = .ok (.invokevirtual 70, 3) := by decide +kernel
theorem dX5_putWord_11 : decode cX5_putWord 11 = .ok (.istore_n 3, 1) := by decide +kernel
theorem dX5_putWord_12 : decode cX5_putWord 12 = .ok (.iload_n 2, 1) := by decide +kernel
theorem dX5_putWord_13 : decode cX5_putWord 13 = .ok (.aload_n 0, 1) := by decide +kernel
theorem dX5_putWord_14 : decode cX5_putWord 14 = .ok (.iload_n 3, 1) := by decide +kernel
theorem dX5_putWord_15 : decode cX5_putWord 15 = .ok (.invokevirtual 74, 3) := by decide +kernel
theorem dX5_putWord_18 : decode cX5_putWord 18 = .ok (.iadd, 1) := by decide +kernel
theorem dX5_putWord_19 : decode cX5_putWord 19 = .ok (.sipush 1500, 3) := by decide +kernel
theorem dX5_putWord_22 : decode cX5_putWord 22 = .ok (.if_icmp .le 5, 3) := by decide +kernel
theorem dX5_putWord_25 : decode cX5_putWord 25 = .ok (.iconst 0, 1) := by decide +kernel
theorem dX5_putWord_26 : decode cX5_putWord 26 = .ok (.ireturn, 1) := by decide +kernel
theorem dX5_putWord_27 : decode cX5_putWord 27 = .ok (.aload_n 0, 1) := by decide +kernel
theorem dX5_putWord_28 : decode cX5_putWord 28 = .ok (.iload_n 1, 1) := by decide +kernel
theorem dX5_putWord_29 : decode cX5_putWord 29 = .ok (.invokevirtual 77, 3) := by decide +kernel
theorem dX5_putWord_32 : decode cX5_putWord 32 = .ok (.istore 4, 2) := by decide +kernel
theorem dX5_putWord_34 : decode cX5_putWord 34 = .ok (.iconst 0, 1) := by decide +kernel
theorem dX5_putWord_35 : decode cX5_putWord 35 = .ok (.istore 5, 2) := by decide +kernel
theorem dX5_putWord_37 : decode cX5_putWord 37 = .ok (.iload 5, 2) := by decide +kernel
theorem dX5_putWord_39 : decode cX5_putWord 39 = .ok (.iload_n 3, 1) := by decide +kernel
theorem dX5_putWord_40 : decode cX5_putWord 40 = .ok (.if_icmp .ge 57, 3) := by decide +kernel
theorem dX5_putWord_43 : decode cX5_putWord 43 = .ok (.iload_n 2, 1) := by decide +kernel
theorem dX5_putWord_44 : decode cX5_putWord 44 = .ok (.aload_n 0, 1) := by decide +kernel
theorem dX5_putWord_45 : decode cX5_putWord 45 = .ok (.iload 5, 2) := by decide +kernel
theorem dX5_putWord_47 : decode cX5_putWord 47 = .ok (.invokevirtual 74, 3) := by decide +kernel
theorem dX5_putWord_50 : decode cX5_putWord 50 = .ok (.iadd, 1) := by decide +kernel
theorem dX5_putWord_51 : decode cX5_putWord 51 = .ok (.istore 6, 2) := by decide +kernel
theorem dX5_putWord_53 : decode cX5_putWord 53 = .ok (.iload 6, 2) := by decide +kernel
theorem dX5_putWord_55 : decode cX5_putWord 55 = .ok (.iload_n 2, 1) := by decide +kernel
theorem dX5_putWord_56 : decode cX5_putWord 56 = .ok (.aload_n 0, 1) := by decide +kernel
theorem dX5_putWord_57 : decode cX5_putWord 57 = .ok (.iload 5, 2) := by decide +kernel
theorem dX5_putWord_59 : decode cX5_putWord 59 = .ok (.iconst 1, 1) := by decide +kernel
theorem dX5_putWord_60 : decode cX5_putWord 60 = .ok (.iadd, 1) := by decide +kernel
theorem dX5_putWord_61 : decode cX5_putWord 61 = .ok (.invokevirtual 74, 3) := by decide +kernel
theorem dX5_putWord_64 : decode cX5_putWord 64 = .ok (.iadd, 1) := by decide +kernel
theorem dX5_putWord_65 : decode cX5_putWord 65 = .ok (.if_icmp .ge 26, 3) := by decide +kernel
theorem dX5_putWord_68 : decode cX5_putWord 68 = .ok (.aload_n 0, 1) := by decide +kernel
theorem dX5_putWord_69 : decode cX5_putWord 69 = .ok (.getfield 7, 3) := by decide +kernel
theorem dX5_putWord_72 : decode cX5_putWord 72 = .ok (.bipush 47, 2) := by decide +kernel
theorem dX5_putWord_74 : decode cX5_putWord 74 = .ok (.iload 6, 2) := by decide +kernel
theorem dX5_putWord_76 : decode cX5_putWord 76 = .ok (.iadd, 1) := by decide +kernel
theorem dX5_putWord_77 : decode cX5_putWord 77 = .ok (.iload 4, 2) := by decide +kernel
theorem dX5_putWord_79 : decode cX5_putWord 79 = .ok (.iload 5, 2) := by decide +kernel
theorem dX5_putWord_81 : decode cX5_putWord 81 = .ok (.ishr, 1) := by decide +kernel
theorem dX5_putWord_82 : decode cX5_putWord 82 = .ok (.iconst 1, 1) := by decide +kernel
theorem dX5_putWord_83 : decode cX5_putWord 83 = .ok (.iand, 1) := by decide +kernel
theorem dX5_putWord_84 : decode cX5_putWord 84 = .ok (.iastore, 1) := by decide +kernel
theorem dX5_putWord_85 : decode cX5_putWord 85 = .ok (.iinc 6 1, 3) := by decide +kernel
theorem dX5_putWord_88 : decode cX5_putWord 88 = .ok (.goto (-35), 3) := by decide +kernel
theorem dX5_putWord_91 : decode cX5_putWord 91 = .ok (.iinc 5 1, 3) := by decide +kernel
theorem dX5_putWord_94 : decode cX5_putWord 94 = .ok (.goto (-57), 3) := by decide +kernel
theorem dX5_putWord_97 : decode cX5_putWord 97 = .ok (.aload_n 0, 1) := by decide +kernel
theorem dX5_putWord_98 : decode cX5_putWord 98 = .ok (.getfield 7, 3) := by decide +kernel
theorem dX5_putWord_101 : decode cX5_putWord 101 = .ok (.iconst 5, 1) := by decide +kernel
theorem dX5_putWord_102 : decode cX5_putWord 102 = .ok (.iload_n 2, 1) := by decide +kernel
theorem dX5_putWord_103 : decode cX5_putWord 103 = .ok (.aload_n 0, 1) := by decide +kernel
theorem dX5_putWord_104 : decode cX5_putWord 104 = .ok (.iload_n 3, 1) := by decide +kernel
theorem dX5_putWord_105 : decode cX5_putWord 105 = .ok (.invokevirtual 74, 3) := by decide +kernel
theorem dX5_putWord_108 : decode cX5_putWord 108 = .ok (.iadd, 1) := by decide +kernel
theorem dX5_putWord_109 : decode cX5_putWord 109 = .ok (.iastore, 1) := by decide +kernel
theorem dX5_putWord_110 : decode cX5_putWord 110 = .ok (.aload_n 0, 1) := by decide +kernel
theorem dX5_putWord_111 : decode cX5_putWord 111 = .ok (.getfield 7, 3) := by decide +kernel
theorem dX5_putWord_114 : decode cX5_putWord 114 = .ok (.bipush 7, 2) := by decide +kernel
theorem dX5_putWord_116 : decode cX5_putWord 116 = .ok (.aload_n 0, 1) := by decide +kernel
theorem dX5_putWord_117 : decode cX5_putWord 117 = .ok (.getfield 7, 3) := by decide +kernel
theorem dX5_putWord_120 : decode cX5_putWord 120 = .ok (.bipush 6, 2) := by decide +kernel
theorem dX5_putWord_122 : decode cX5_putWord 122 = .ok (.iaload, 1) := by decide +kernel
theorem dX5_putWord_123 : decode cX5_putWord 123 = .ok (.iadd, 1) := by decide +kernel
theorem dX5_putWord_124 : decode cX5_putWord 124 = .ok (.iload_n 1, 1) := by decide +kernel
theorem dX5_putWord_125 : decode cX5_putWord 125 = .ok (.iastore, 1) := by decide +kernel
theorem dX5_putWord_126 : decode cX5_putWord 126 = .ok (.aload_n 0, 1) := by decide +kernel
theorem dX5_putWord_127 : decode cX5_putWord 127 = .ok (.getfield 7, 3) := by decide +kernel
theorem dX5_putWord_130 : decode cX5_putWord 130 = .ok (.bipush 6, 2) := by decide +kernel
theorem dX5_putWord_132 : decode cX5_putWord 132 = .ok (.dup2, 1) := by decide +kernel
theorem dX5_putWord_133 : decode cX5_putWord 133 = .ok (.iaload, 1) := by decide +kernel
theorem dX5_putWord_134 : decode cX5_putWord 134 = .ok (.iconst 1, 1) := by decide +kernel
theorem dX5_putWord_135 : decode cX5_putWord 135 = .ok (.iadd, 1) := by decide +kernel
theorem dX5_putWord_136 : decode cX5_putWord 136 = .ok (.iastore, 1) := by decide +kernel
theorem dX5_putWord_137 : decode cX5_putWord 137 = .ok (.iconst 1, 1) := by decide +kernel
theorem dX5_putWord_138 : decode cX5_putWord 138 = .ok (.ireturn, 1) := by decide +kernel
theorem dX5_putLevel_0 : decode cX5_putLevel 0 = .ok (.aload_n 0, 1) := by decide +kernel
theorem dX5_putLevel_1 : decode cX5_putLevel 1 = .ok (.getfield 7, 3) := by decide +kernel
theorem dX5_putLevel_4 : decode cX5_putLevel 4 = .ok (.iconst 5, 1) := by decide +kernel
theorem dX5_putLevel_5 : decode cX5_putLevel 5 = .ok (.iaload, 1) := by decide +kernel
theorem dX5_putLevel_6 : decode cX5_putLevel 6 = .ok (.iload_n 2, 1) := by decide +kernel
theorem dX5_putLevel_7 : decode cX5_putLevel 7 = .ok (.iadd, 1) := by decide +kernel
theorem dX5_putLevel_8 : decode cX5_putLevel 8 = .ok (.sipush 1500, 3) := by decide +kernel
theorem dX5_putLevel_11 : decode cX5_putLevel 11 = .ok (.if_icmp .le 5, 3) := by decide +kernel
theorem dX5_putLevel_14 : decode cX5_putLevel 14 = .ok (.iconst 0, 1) := by decide +kernel
theorem dX5_putLevel_15 : decode cX5_putLevel 15 = .ok (.ireturn, 1) := by decide +kernel
theorem dX5_putLevel_16 : decode cX5_putLevel 16 = .ok (.iconst 0, 1) := by decide +kernel
theorem dX5_putLevel_17 : decode cX5_putLevel 17 = .ok (.istore_n 3, 1) := by decide +kernel
theorem dX5_putLevel_18 : decode cX5_putLevel 18 = .ok (.iload_n 3, 1) := by decide +kernel
theorem dX5_putLevel_19 : decode cX5_putLevel 19 = .ok (.iload_n 2, 1) := by decide +kernel
theorem dX5_putLevel_20 : decode cX5_putLevel 20 = .ok (.if_icmp .ge 26, 3) := by decide +kernel
theorem dX5_putLevel_23 : decode cX5_putLevel 23 = .ok (.aload_n 0, 1) := by decide +kernel
theorem dX5_putLevel_24 : decode cX5_putLevel 24 = .ok (.getfield 7, 3) := by decide +kernel
theorem dX5_putLevel_27 : decode cX5_putLevel 27 = .ok (.bipush 47, 2) := by decide +kernel
theorem dX5_putLevel_29 : decode cX5_putLevel 29 = .ok (.aload_n 0, 1) := by decide +kernel
theorem dX5_putLevel_30 : decode cX5_putLevel 30 = .ok (.getfield 7, 3) := by decide +kernel
theorem dX5_putLevel_33 : decode cX5_putLevel 33 = .ok (.iconst 5, 1) := by decide +kernel
theorem dX5_putLevel_34 : decode cX5_putLevel 34 = .ok (.iaload, 1) := by decide +kernel
theorem dX5_putLevel_35 : decode cX5_putLevel 35 = .ok (.iadd, 1) := by decide +kernel
theorem dX5_putLevel_36 : decode cX5_putLevel 36 = .ok (.iload_n 3, 1) := by decide +kernel
theorem dX5_putLevel_37 : decode cX5_putLevel 37 = .ok (.iadd, 1) := by decide +kernel
theorem dX5_putLevel_38 : decode cX5_putLevel 38 = .ok (.iload_n 1, 1) := by decide +kernel
theorem dX5_putLevel_39 : decode cX5_putLevel 39 = .ok (.iastore, 1) := by decide +kernel
theorem dX5_putLevel_40 : decode cX5_putLevel 40 = .ok (.iinc 3 1, 3) := by decide +kernel
theorem dX5_putLevel_43 : decode cX5_putLevel 43 = .ok (.goto (-25), 3) := by decide +kernel
theorem dX5_putLevel_46 : decode cX5_putLevel 46 = .ok (.aload_n 0, 1) := by decide +kernel
theorem dX5_putLevel_47 : decode cX5_putLevel 47 = .ok (.getfield 7, 3) := by decide +kernel
theorem dX5_putLevel_50 : decode cX5_putLevel 50 = .ok (.iconst 5, 1) := by decide +kernel
theorem dX5_putLevel_51 : decode cX5_putLevel 51 = .ok (.dup2, 1) := by decide +kernel
theorem dX5_putLevel_52 : decode cX5_putLevel 52 = .ok (.iaload, 1) := by decide +kernel
theorem dX5_putLevel_53 : decode cX5_putLevel 53 = .ok (.iload_n 2, 1) := by decide +kernel
theorem dX5_putLevel_54 : decode cX5_putLevel 54 = .ok (.iadd, 1) := by decide +kernel
theorem dX5_putLevel_55 : decode cX5_putLevel 55 = .ok (.iastore, 1) := by decide +kernel
theorem dX5_putLevel_56 : decode cX5_putLevel 56 = .ok (.iconst 1, 1) := by decide +kernel
theorem dX5_putLevel_57 : decode cX5_putLevel 57 = .ok (.ireturn, 1) := by decide +kernel
set_option maxRecDepth 20000 in
theorem ggX5_send_X5_within : GoodIn wsX5_send wsX5_within := goodIn_r _ [5] (by decide +kernel) (by decide +kernel)
set_option maxRecDepth 20000 in
theorem gX5_send_X5_within : GoodIn wsX5_send (va_wsS RX5 80 yX5_within wsX5_within) := goodIn_app (goodIn_of _ (by decide +kernel)) ggX5_send_X5_within
set_option maxRecDepth 20000 in
theorem ggX5_send_X5_putAside : GoodIn wsX5_send wsX5_putAside := goodIn_r _ [9, 10, 1, 40, 41, 42, 43, 44, 45, 46, 47, 48, 49, 50, 51, 52, 53, 54, 55, 56, 57, 58, 59] (by decide +kernel) (by decide +kernel)
set_option maxRecDepth 20000 in
theorem gX5_send_X5_putAside : GoodIn wsX5_send (wsV RX5 50 RX5 yX5_putAside wsX5_putAside) := goodIn_app (goodIn_of _ (by decide +kernel)) ggX5_send_X5_putAside
set_option maxRecDepth 20000 in
theorem ggX5_send_X5_putWord : GoodIn wsX5_send wsX5_putWord := goodIn_r _ [14, 1, 15, 16, 17, 4, 18, 19, 20, 21, 22, 23, 24, 25, 26, 27, 28, 29, 30, 31, 32, 33, 40, 41, 42, 43, 44, 45, 46, 47, 48, 49, 50, 51, 52, 53, 54, 55, 56, 57, 58, 59] (by decide +kernel) (by decide +kernel)
set_option maxRecDepth 20000 in
theorem gX5_send_X5_putWord : GoodIn wsX5_send (wsV RX5 84 RX5 yX5_putWord wsX5_putWord) := goodIn_app (goodIn_of _ (by decide +kernel)) ggX5_send_X5_putWord
set_option maxRecDepth 20000 in
theorem ggX5_send_X5_push : GoodIn wsX5_send wsX5_push := goodIn_r _ [37, 38, 39, 10, 40, 41, 42, 43, 44, 45, 46, 47, 48, 49, 50, 51, 52, 53, 54, 55, 56, 57, 58, 59] (by decide +kernel) (by decide +kernel)
set_option maxRecDepth 20000 in
theorem gX5_send_X5_push : GoodIn wsX5_send (wsV RX5 53 RX5 yX5_push wsX5_push) := goodIn_app (goodIn_of _ (by decide +kernel)) ggX5_send_X5_push
theorem dX5_send_0 : decode cX5_send 0 = .ok (.iload_n 1, 1) := by decide +kernel
theorem dX5_send_1 : decode cX5_send 1 = .ok (.iconst 0, 1) := by decide +kernel
theorem dX5_send_2 : decode cX5_send 2 = .ok (.sipush 255, 3) := by decide +kernel
theorem dX5_send_5 : decode cX5_send 5 = .ok (.invokestatic 80, 3) := by decide +kernel
theorem dX5_send_8 : decode cX5_send 8 = .ok (.ifCond .ne 6, 3) := by decide +kernel
theorem dX5_send_11 : decode cX5_send 11 = .ok (.bipush (-2), 2) := by decide +kernel
theorem dX5_send_13 : decode cX5_send 13 = .ok (.ireturn, 1) := by decide +kernel
theorem dX5_send_14 : decode cX5_send 14 = .ok (.aload_n 0, 1) := by decide +kernel
theorem dX5_send_15 : decode cX5_send 15 = .ok (.invokevirtual 50, 3) := by decide +kernel
theorem dX5_send_18 : decode cX5_send 18 = .ok (.aload_n 0, 1) := by decide +kernel
theorem dX5_send_19 : decode cX5_send 19 = .ok (.iload_n 1, 1) := by decide +kernel
theorem dX5_send_20 : decode cX5_send 20 = .ok (.invokevirtual 84, 3) := by decide +kernel
theorem dX5_send_23 : decode cX5_send 23 = .ok (.ifCond .ne 6, 3) := by decide +kernel
theorem dX5_send_26 : decode cX5_send 26 = .ok (.bipush (-3), 2) := by decide +kernel
theorem dX5_send_28 : decode cX5_send 28 = .ok (.ireturn, 1) := by decide +kernel
theorem dX5_send_29 : decode cX5_send 29 = .ok (.aload_n 0, 1) := by decide +kernel
theorem dX5_send_30 : decode cX5_send 30 = .ok (.invokevirtual 53, 3) := by decide +kernel
theorem dX5_send_33 : decode cX5_send 33 = .ok (.aload_n 0, 1) := by decide +kernel
theorem dX5_send_34 : decode cX5_send 34 = .ok (.getfield 7, 3) := by decide +kernel
theorem dX5_send_37 : decode cX5_send 37 = .ok (.iconst 5, 1) := by decide +kernel
theorem dX5_send_38 : decode cX5_send 38 = .ok (.iaload, 1) := by decide +kernel
theorem dX5_send_39 : decode cX5_send 39 = .ok (.ireturn, 1) := by decide +kernel
set_option maxRecDepth 20000 in
theorem ggX5_putsLevel_X5_within : GoodIn wsX5_putsLevel wsX5_within := goodIn_r _ [5] (by decide +kernel) (by decide +kernel)
set_option maxRecDepth 20000 in
theorem gX5_putsLevel_X5_within : GoodIn wsX5_putsLevel (va_wsS RX5 80 yX5_within wsX5_within) := goodIn_app (goodIn_of _ (by decide +kernel)) ggX5_putsLevel_X5_within
set_option maxRecDepth 20000 in
theorem ggX5_putsLevel_X5_putAside : GoodIn wsX5_putsLevel wsX5_putAside := goodIn_r _ [9, 10, 1, 21, 22, 23, 24, 25, 26, 27, 28, 29, 30, 31, 32, 33, 34, 35, 36, 37, 38, 39, 40] (by decide +kernel) (by decide +kernel)
set_option maxRecDepth 20000 in
theorem gX5_putsLevel_X5_putAside : GoodIn wsX5_putsLevel (wsV RX5 50 RX5 yX5_putAside wsX5_putAside) := goodIn_app (goodIn_of _ (by decide +kernel)) ggX5_putsLevel_X5_putAside
set_option maxRecDepth 20000 in
theorem ggX5_putsLevel_X5_putLevel : GoodIn wsX5_putsLevel wsX5_putLevel := goodIn_r _ [14, 1, 21, 22, 23, 24, 25, 26, 27, 28, 29, 30, 31, 32, 33, 34, 35, 36, 37, 38, 39, 40] (by decide +kernel) (by decide +kernel)
set_option maxRecDepth 20000 in
theorem gX5_putsLevel_X5_putLevel : GoodIn wsX5_putsLevel (wsV RX5 88 RX5 yX5_putLevel wsX5_putLevel) := goodIn_app (goodIn_of _ (by decide +kernel)) ggX5_putsLevel_X5_putLevel
set_option maxRecDepth 20000 in
theorem ggX5_putsLevel_X5_push : GoodIn wsX5_putsLevel wsX5_push := goodIn_r _ [18, 19, 20, 10, 21, 22, 23, 24, 25, 26, 27, 28, 29, 30, 31, 32, 33, 34, 35, 36, 37, 38, 39, 40] (by decide +kernel) (by decide +kernel)
set_option maxRecDepth 20000 in
theorem gX5_putsLevel_X5_push : GoodIn wsX5_putsLevel (wsV RX5 53 RX5 yX5_push wsX5_push) := goodIn_app (goodIn_of _ (by decide +kernel)) ggX5_putsLevel_X5_push
theorem dX5_putsLevel_0 : decode cX5_putsLevel 0 = .ok (.iload_n 2, 1) := by decide +kernel
theorem dX5_putsLevel_1 : decode cX5_putsLevel 1 = .ok (.iconst 1, 1) := by decide +kernel
theorem dX5_putsLevel_2 : decode cX5_putsLevel 2 = .ok (.sipush 500, 3) := by decide +kernel
theorem dX5_putsLevel_5 : decode cX5_putsLevel 5 = .ok (.invokestatic 80, 3) := by decide +kernel
theorem dX5_putsLevel_8 : decode cX5_putsLevel 8 = .ok (.ifCond .ne 6, 3) := by decide +kernel
theorem dX5_putsLevel_11 : decode cX5_putsLevel 11 = .ok (.bipush (-2), 2) := by decide +kernel
theorem dX5_putsLevel_13 : decode cX5_putsLevel 13 = .ok (.ireturn, 1) := by decide +kernel
theorem dX5_putsLevel_14 : decode cX5_putsLevel 14 = .ok (.aload_n 0, 1) := by decide +kernel
theorem dX5_putsLevel_15 : decode cX5_putsLevel 15 = .ok (.invokevirtual 50, 3) := by decide +kernel
theorem dX5_putsLevel_18 : decode cX5_putsLevel 18 = .ok (.aload_n 0, 1) := by decide +kernel
theorem dX5_putsLevel_19 : decode cX5_putsLevel 19 = .ok (.iload_n 1, 1) := by decide +kernel
theorem dX5_putsLevel_20 : decode cX5_putsLevel 20 = .ok (.iload_n 2, 1) := by decide +kernel
theorem dX5_putsLevel_21 : decode cX5_putsLevel 21 = .ok (.invokevirtual 88, 3) := by decide +kernel
theorem dX5_putsLevel_24 : decode cX5_putsLevel 24 = .ok (.ifCond .ne 6, 3) := by decide +kernel
theorem dX5_putsLevel_27 : decode cX5_putsLevel 27 = .ok (.bipush (-3), 2) := by decide +kernel
theorem dX5_putsLevel_29 : decode cX5_putsLevel 29 = .ok (.ireturn, 1) := by decide +kernel
theorem dX5_putsLevel_30 : decode cX5_putsLevel 30 = .ok (.aload_n 0, 1) := by decide +kernel
theorem dX5_putsLevel_31 : decode cX5_putsLevel 31 = .ok (.invokevirtual 53, 3) := by decide +kernel
theorem dX5_putsLevel_34 : decode cX5_putsLevel 34 = .ok (.aload_n 0, 1) := by decide +kernel
theorem dX5_putsLevel_35 : decode cX5_putsLevel 35 = .ok (.getfield 7, 3) := by decide +kernel
theorem dX5_putsLevel_38 : decode cX5_putsLevel 38 = .ok (.iconst 5, 1) := by decide +kernel
theorem dX5_putsLevel_39 : decode cX5_putsLevel 39 = .ok (.iaload, 1) := by decide +kernel
theorem dX5_putsLevel_40 : decode cX5_putsLevel 40 = .ok (.ireturn, 1) := by decide +kernel
set_option maxRecDepth 20000 in
theorem ggX5_pause_X5_putsLevel : GoodIn wsX5_pause wsX5_putsLevel := goodIn_r _ [5, 6, 7, 8, 4, 9, 10, 11, 12, 13, 14, 15, 16, 17, 18, 19, 20, 21, 22, 23, 24, 25, 26, 27, 28, 29, 30, 31, 32, 33, 34, 35, 36, 37, 38, 39, 40, 41, 42, 43, 44] (by decide +kernel) (by decide +kernel)
set_option maxRecDepth 20000 in
theorem gX5_pause_X5_putsLevel : GoodIn wsX5_pause (wsV RX5 92 RX5 yX5_putsLevel wsX5_putsLevel) := goodIn_app (goodIn_of _ (by decide +kernel)) ggX5_pause_X5_putsLevel
theorem dX5_pause_0 : decode cX5_pause 0 = .ok (.aload_n 0, 1) := by decide +kernel
theorem dX5_pause_1 : decode cX5_pause 1 = .ok (.iconst 1, 1) := by decide +kernel
theorem dX5_pause_2 : decode cX5_pause 2 = .ok (.iload_n 1, 1) := by decide +kernel
theorem dX5_pause_3 : decode cX5_pause 3 = .ok (.invokevirtual 92, 3) := by decide +kernel
theorem dX5_pause_6 : decode cX5_pause 6 = .ok (.ireturn, 1) := by decide +kernel
set_option maxRecDepth 20000 in
theorem ggX5_sendBreak_X5_putsLevel : GoodIn wsX5_sendBreak wsX5_putsLevel := goodIn_r _ [5, 6, 7, 8, 4, 9, 10, 11, 12, 13, 14, 15, 16, 17, 18, 19, 20, 21, 22, 23, 24, 25, 26, 27, 28, 29, 30, 31, 32, 33, 34, 35, 36, 37, 38, 39, 40, 41, 42, 43, 44] (by decide +kernel) (by decide +kernel)
set_option maxRecDepth 20000 in
theorem gX5_sendBreak_X5_putsLevel : GoodIn wsX5_sendBreak (wsV RX5 92 RX5 yX5_putsLevel wsX5_putsLevel) := goodIn_app (goodIn_of _ (by decide +kernel)) ggX5_sendBreak_X5_putsLevel
theorem dX5_sendBreak_0 : decode cX5_sendBreak 0 = .ok (.aload_n 0, 1) := by decide +kernel
theorem dX5_sendBreak_1 : decode cX5_sendBreak 1 = .ok (.iconst 0, 1) := by decide +kernel
theorem dX5_sendBreak_2 : decode cX5_sendBreak 2 = .ok (.iload_n 1, 1) := by decide +kernel
theorem dX5_sendBreak_3 : decode cX5_sendBreak 3 = .ok (.invokevirtual 92, 3) := by decide +kernel
theorem dX5_sendBreak_6 : decode cX5_sendBreak 6 = .ok (.ireturn, 1) := by decide +kernel
theorem dX5_flip_0 : decode cX5_flip 0 = .ok (.iconst 0, 1) := by decide +kernel
theorem dX5_flip_1 : decode cX5_flip 1 = .ok (.istore_n 3, 1) := by decide +kernel
theorem dX5_flip_2 : decode cX5_flip 2 = .ok (.iload_n 3, 1) := by decide +kernel
theorem dX5_flip_3 : decode cX5_flip 3 = .ok (.iload_n 2, 1) := by decide +kernel
theorem dX5_flip_4 : decode cX5_flip 4 = .ok (.if_icmp .ge 33, 3) := by decide +kernel
theorem dX5_flip_7 : decode cX5_flip 7 = .ok (.aload_n 0, 1) := by decide +kernel
theorem dX5_flip_8 : decode cX5_flip 8 = .ok (.getfield 7, 3) := by decide +kernel
theorem dX5_flip_11 : decode cX5_flip 11 = .ok (.bipush 47, 2) := by decide +kernel
theorem dX5_flip_13 : decode cX5_flip 13 = .ok (.iload_n 1, 1) := by decide +kernel
theorem dX5_flip_14 : decode cX5_flip 14 = .ok (.iadd, 1) := by decide +kernel
theorem dX5_flip_15 : decode cX5_flip 15 = .ok (.iload_n 3, 1) := by decide +kernel
theorem dX5_flip_16 : decode cX5_flip 16 = .ok (.iadd, 1) := by decide +kernel
theorem dX5_flip_17 : decode cX5_flip 17 = .ok (.iconst 1, 1) := by decide +kernel
theorem dX5_flip_18 : decode cX5_flip 18 = .ok (.aload_n 0, 1) := by decide +kernel
theorem dX5_flip_19 : decode cX5_flip 19 = .ok (.getfield 7, 3) := by decide +kernel
theorem dX5_flip_22 : decode cX5_flip 22 = .ok (.bipush 47, 2) := by decide +kernel
theorem dX5_flip_24 : decode cX5_flip 24 = .ok (.iload_n 1, 1) := by decide +kernel
theorem dX5_flip_25 : decode cX5_flip 25 = .ok (.iadd, 1) := by decide +kernel
theorem dX5_flip_26 : decode cX5_flip 26 = .ok (.iload_n 3, 1) := by decide +kernel
theorem dX5_flip_27 : decode cX5_flip 27 = .ok (.iadd, 1) := by decide +kernel
theorem dX5_flip_28 : decode cX5_flip 28 = .ok (.iaload, 1) := by decide +kernel
theorem dX5_flip_29 : decode cX5_flip 29 = .ok (.isub, 1) := by decide +kernel
theorem dX5_flip_30 : decode cX5_flip 30 = .ok (.iastore, 1) := by decide +kernel
theorem dX5_flip_31 : decode cX5_flip 31 = .ok (.iinc 3 1, 3) := by decide +kernel
theorem dX5_flip_34 : decode cX5_flip 34 = .ok (.goto (-32), 3) := by decide +kernel
theorem dX5_flip_37 : decode cX5_flip 37 = .ok (.return_, 1) := by decide +kernel
set_option maxRecDepth 20000 in
theorem ggX5_disturb_X5_within : GoodIn wsX5_disturb wsX5_within := goodIn_r _ [5] (by decide +kernel) (by decide +kernel)
set_option maxRecDepth 20000 in
theorem gX5_disturb_X5_within : GoodIn wsX5_disturb (va_wsS RX5 80 yX5_within wsX5_within) := goodIn_app (goodIn_of _ (by decide +kernel)) ggX5_disturb_X5_within
set_option maxRecDepth 20000 in
theorem ggX5_disturb_X5_record : GoodIn wsX5_disturb wsX5_record := goodIn_r _ [9, 10, 11, 12, 4, 13, 14, 1, 15, 16, 17, 18, 19, 20, 25, 26, 27, 28, 29, 30, 31, 32, 33, 34, 35, 36, 37, 38, 39, 40, 41, 42, 43, 44] (by decide +kernel) (by decide +kernel)
set_option maxRecDepth 20000 in
theorem gX5_disturb_X5_record : GoodIn wsX5_disturb (wsV RX5 60 RX5 yX5_record wsX5_record) := goodIn_app (goodIn_of _ (by decide +kernel)) ggX5_disturb_X5_record
set_option maxRecDepth 20000 in
theorem ggX5_disturb_X5_flip : GoodIn wsX5_disturb wsX5_flip := goodIn_r _ [24, 1, 25, 26, 27, 28, 29, 30, 31, 32, 33, 34, 35, 36, 37, 38, 39, 40, 41, 42, 43, 44] (by decide +kernel) (by decide +kernel)
set_option maxRecDepth 20000 in
theorem gX5_disturb_X5_flip : GoodIn wsX5_disturb (wsV RX5 96 RX5 yX5_flip wsX5_flip) := goodIn_app (goodIn_of _ (by decide +kernel)) ggX5_disturb_X5_flip
theorem dX5_disturb_0 : decode cX5_disturb 0 = .ok (.iload_n 1, 1) := by decide +kernel
theorem dX5_disturb_1 : decode cX5_disturb 1 = .ok (.ifCond .lt 25, 3) := by decide +kernel
theorem dX5_disturb_4 : decode cX5_disturb 4 = .ok (.iload_n 2, 1) := by decide +kernel
theorem dX5_disturb_5 : decode cX5_disturb 5 = .ok (.iconst 1, 1) := by decide +kernel
theorem dX5_disturb_6 : decode cX5_disturb 6 = .ok (.bipush 40, 2) := by decide +kernel
theorem dX5_disturb_8 : decode cX5_disturb 8 = .ok (.invokestatic 80, 3) := by decide +kernel
theorem dX5_disturb_11 : decode cX5_disturb 11 = .ok (.ifCond .eq 15, 3) := by decide +kernel
theorem dX5_disturb_14 : decode cX5_disturb 14 = .ok (.iload_n 1, 1) := by decide +kernel
theorem dX5_disturb_15 : decode cX5_disturb 15 = .ok (.aload_n 0, 1) := by decide +kernel
theorem dX5_disturb_16 : decode cX5_disturb 16 = .ok (.getfield 7, 3) := by decide +kernel
theorem dX5_disturb_19 : decode cX5_disturb 19 = .ok (.iconst 5, 1) := by decide +kernel
theorem dX5_disturb_20 : decode cX5_disturb 20 = .ok (.iaload, 1) := by decide +kernel
theorem dX5_disturb_21 : decode cX5_disturb 21 = .ok (.iload_n 2, 1) := by decide +kernel
theorem dX5_disturb_22 : decode cX5_disturb 22 = .ok (.isub, 1) := by decide +kernel
theorem dX5_disturb_23 : decode cX5_disturb 23 = .ok (.if_icmp .le 6, 3) := by decide +kernel
theorem dX5_disturb_26 : decode cX5_disturb 26 = .ok (.bipush (-2), 2) := by decide +kernel
theorem dX5_disturb_28 : decode cX5_disturb 28 = .ok (.ireturn, 1) := by decide +kernel
theorem dX5_disturb_29 : decode cX5_disturb 29 = .ok (.aload_n 0, 1) := by decide +kernel
theorem dX5_disturb_30 : decode cX5_disturb 30 = .ok (.invokevirtual 60, 3) := by decide +kernel
theorem dX5_disturb_33 : decode cX5_disturb 33 = .ok (.aload_n 0, 1) := by decide +kernel
theorem dX5_disturb_34 : decode cX5_disturb 34 = .ok (.iload_n 1, 1) := by decide +kernel
theorem dX5_disturb_35 : decode cX5_disturb 35 = .ok (.iload_n 2, 1) := by decide +kernel
theorem dX5_disturb_36 : decode cX5_disturb 36 = .ok (.invokevirtual 96, 3) := by decide +kernel
theorem dX5_disturb_39 : decode cX5_disturb 39 = .ok (.iconst 0, 1) := by decide +kernel
theorem dX5_disturb_40 : decode cX5_disturb 40 = .ok (.istore_n 3, 1) := by decide +kernel
theorem dX5_disturb_41 : decode cX5_disturb 41 = .ok (.iconst 0, 1) := by decide +kernel
theorem dX5_disturb_42 : decode cX5_disturb 42 = .ok (.istore 4, 2) := by decide +kernel
theorem dX5_disturb_44 : decode cX5_disturb 44 = .ok (.iload 4, 2) := by decide +kernel
theorem dX5_disturb_46 : decode cX5_disturb 46 = .ok (.iload_n 2, 1) := by decide +kernel
theorem dX5_disturb_47 : decode cX5_disturb 47 = .ok (.if_icmp .ge 24, 3) := by decide +kernel
theorem dX5_disturb_50 : decode cX5_disturb 50 = .ok (.iload_n 3, 1) := by decide +kernel
theorem dX5_disturb_51 : decode cX5_disturb 51 = .ok (.aload_n 0, 1) := by decide +kernel
theorem dX5_disturb_52 : decode cX5_disturb 52 = .ok (.getfield 7, 3) := by decide +kernel
theorem dX5_disturb_55 : decode cX5_disturb 55 = .ok (.bipush 47, 2) := by decide +kernel
theorem dX5_disturb_57 : decode cX5_disturb 57 = .ok (.iload_n 1, 1) := by decide +kernel
theorem dX5_disturb_58 : decode cX5_disturb 58 = .ok (.iadd, 1) := by decide +kernel
theorem dX5_disturb_59 : decode cX5_disturb 59 = .ok (.iload 4, 2) := by decide +kernel
theorem dX5_disturb_61 : decode cX5_disturb 61 = .ok (.iadd, 1) := by decide +kernel
theorem dX5_disturb_62 : decode cX5_disturb 62 = .ok (.iaload, 1) := by decide +kernel
theorem dX5_disturb_63 : decode cX5_disturb 63 = .ok (.iadd, 1) := by decide +kernel
theorem dX5_disturb_64 : decode cX5_disturb 64 = .ok (.istore_n 3, 1) := by decide +kernel
theorem dX5_disturb_65 : decode cX5_disturb 65 = .ok (.iinc 4 1, 3) := by decide +kernel
theorem dX5_disturb_68 : decode cX5_disturb 68 = .ok (.goto (-24), 3) := by decide +kernel
theorem dX5_disturb_71 : decode cX5_disturb 71 = .ok (.iload_n 3, 1) := by decide +kernel
theorem dX5_disturb_72 : decode cX5_disturb 72 = .ok (.ireturn, 1) := by decide +kernel
set_option maxRecDepth 20000 in
theorem ggX5_clear_X5_record : GoodIn wsX5_clear wsX5_record := goodIn_r _ [6, 7, 8, 9, 5, 10, 11, 1, 12, 13, 14, 15, 16, 17, 18, 19, 20, 21, 22, 23, 24, 25, 26, 27, 28, 29, 30, 31, 32, 33, 34, 35, 36, 37] (by decide +kernel) (by decide +kernel)
set_option maxRecDepth 20000 in
theorem gX5_clear_X5_record : GoodIn wsX5_clear (wsV RX5 60 RX5 yX5_record wsX5_record) := goodIn_app (goodIn_of _ (by decide +kernel)) ggX5_clear_X5_record
theorem dX5_clear_0 : decode cX5_clear 0 = .ok (.aload_n 0, 1) := by decide +kernel
theorem dX5_clear_1 : decode cX5_clear 1 = .ok (.invokevirtual 60, 3) := by decide +kernel
theorem dX5_clear_4 : decode cX5_clear 4 = .ok (.aload_n 0, 1) := by decide +kernel
theorem dX5_clear_5 : decode cX5_clear 5 = .ok (.getfield 7, 3) := by decide +kernel
theorem dX5_clear_8 : decode cX5_clear 8 = .ok (.iconst 5, 1) := by decide +kernel
theorem dX5_clear_9 : decode cX5_clear 9 = .ok (.iaload, 1) := by decide +kernel
theorem dX5_clear_10 : decode cX5_clear 10 = .ok (.istore_n 1, 1) := by decide +kernel
theorem dX5_clear_11 : decode cX5_clear 11 = .ok (.iconst 5, 1) := by decide +kernel
theorem dX5_clear_12 : decode cX5_clear 12 = .ok (.istore_n 2, 1) := by decide +kernel
theorem dX5_clear_13 : decode cX5_clear 13 = .ok (.iload_n 2, 1) := by decide +kernel
theorem dX5_clear_14 : decode cX5_clear 14 = .ok (.sipush 1547, 3) := by decide +kernel
theorem dX5_clear_17 : decode cX5_clear 17 = .ok (.if_icmp .ge 16, 3) := by decide +kernel
theorem dX5_clear_20 : decode cX5_clear 20 = .ok (.aload_n 0, 1) := by decide +kernel
theorem dX5_clear_21 : decode cX5_clear 21 = .ok (.getfield 7, 3) := by decide +kernel
theorem dX5_clear_24 : decode cX5_clear 24 = .ok (.iload_n 2, 1) := by decide +kernel
theorem dX5_clear_25 : decode cX5_clear 25 = .ok (.iconst 0, 1) := by decide +kernel
theorem dX5_clear_26 : decode cX5_clear 26 = .ok (.iastore, 1) := by decide +kernel
theorem dX5_clear_27 : decode cX5_clear 27 = .ok (.iinc 2 1, 3) := by decide +kernel
theorem dX5_clear_30 : decode cX5_clear 30 = .ok (.goto (-17), 3) := by decide +kernel
theorem dX5_clear_33 : decode cX5_clear 33 = .ok (.iload_n 1, 1) := by decide +kernel
theorem dX5_clear_34 : decode cX5_clear 34 = .ok (.ireturn, 1) := by decide +kernel
set_option maxRecDepth 20000 in
theorem ggX5_isValue_X5_within : GoodIn wsX5_isValue wsX5_within := goodIn_r _ [4] (by decide +kernel) (by decide +kernel)
set_option maxRecDepth 20000 in
theorem gX5_isValue_X5_within : GoodIn wsX5_isValue (va_wsS RX5 80 yX5_within wsX5_within) := goodIn_app (goodIn_of _ (by decide +kernel)) ggX5_isValue_X5_within
theorem dX5_isValue_0 : decode cX5_isValue 0 = .ok (.iload_n 0, 1) := by decide +kernel
theorem dX5_isValue_1 : decode cX5_isValue 1 = .ok (.tableswitch 63 0 3 #[31, 41, 49, 56], 31) := by decide +kernel
theorem dX5_isValue_32 : decode cX5_isValue 32 = .ok (.iload_n 1, 1) := by decide +kernel
theorem dX5_isValue_33 : decode cX5_isValue 33 = .ok (.bipush 64, 2) := by decide +kernel
theorem dX5_isValue_35 : decode cX5_isValue 35 = .ok (.sipush 640, 3) := by decide +kernel
theorem dX5_isValue_38 : decode cX5_isValue 38 = .ok (.invokestatic 80, 3) := by decide +kernel
theorem dX5_isValue_41 : decode cX5_isValue 41 = .ok (.ireturn, 1) := by decide +kernel
theorem dX5_isValue_42 : decode cX5_isValue 42 = .ok (.iload_n 1, 1) := by decide +kernel
theorem dX5_isValue_43 : decode cX5_isValue 43 = .ok (.iconst 4, 1) := by decide +kernel
theorem dX5_isValue_44 : decode cX5_isValue 44 = .ok (.bipush 40, 2) := by decide +kernel
theorem dX5_isValue_46 : decode cX5_isValue 46 = .ok (.invokestatic 80, 3) := by decide +kernel
theorem dX5_isValue_49 : decode cX5_isValue 49 = .ok (.ireturn, 1) := by decide +kernel
theorem dX5_isValue_50 : decode cX5_isValue 50 = .ok (.iload_n 1, 1) := by decide +kernel
theorem dX5_isValue_51 : decode cX5_isValue 51 = .ok (.iconst 0, 1) := by decide +kernel
theorem dX5_isValue_52 : decode cX5_isValue 52 = .ok (.iconst 2, 1) := by decide +kernel
theorem dX5_isValue_53 : decode cX5_isValue 53 = .ok (.invokestatic 80, 3) := by decide +kernel
theorem dX5_isValue_56 : decode cX5_isValue 56 = .ok (.ireturn, 1) := by decide +kernel
theorem dX5_isValue_57 : decode cX5_isValue 57 = .ok (.iload_n 1, 1) := by decide +kernel
theorem dX5_isValue_58 : decode cX5_isValue 58 = .ok (.iconst 1, 1) := by decide +kernel
theorem dX5_isValue_59 : decode cX5_isValue 59 = .ok (.iconst 2, 1) := by decide +kernel
theorem dX5_isValue_60 : decode cX5_isValue 60 = .ok (.invokestatic 80, 3) := by decide +kernel
theorem dX5_isValue_63 : decode cX5_isValue 63 = .ok (.ireturn, 1) := by decide +kernel
theorem dX5_isValue_64 : decode cX5_isValue 64 = .ok (.iload_n 1, 1) := by decide +kernel
theorem dX5_isValue_65 : decode cX5_isValue 65 = .ok (.iconst 0, 1) := by decide +kernel
theorem dX5_isValue_66 : decode cX5_isValue 66 = .ok (.iconst 1, 1) := by decide +kernel
theorem dX5_isValue_67 : decode cX5_isValue 67 = .ok (.invokestatic 80, 3) := by decide +kernel
theorem dX5_isValue_70 : decode cX5_isValue 70 = .ok (.ireturn, 1) := by decide +kernel
set_option maxRecDepth 20000 in
theorem ggX5_set_X5_within : GoodIn wsX5_set wsX5_within := goodIn_r _ [5] (by decide +kernel) (by decide +kernel)
set_option maxRecDepth 20000 in
theorem gX5_set_X5_within : GoodIn wsX5_set (va_wsS RX5 80 yX5_within wsX5_within) := goodIn_app (goodIn_of _ (by decide +kernel)) ggX5_set_X5_within
set_option maxRecDepth 20000 in
theorem ggX5_set_X5_isValue : GoodIn wsX5_set wsX5_isValue := goodIn_r _ [8, 2, 3, 4, 5] (by decide +kernel) (by decide +kernel)
set_option maxRecDepth 20000 in
theorem gX5_set_X5_isValue : GoodIn wsX5_set (va_wsS RX5 100 yX5_isValue wsX5_isValue) := goodIn_app (goodIn_of _ (by decide +kernel)) ggX5_set_X5_isValue
set_option maxRecDepth 20000 in
theorem ggX5_set_X5_record : GoodIn wsX5_set wsX5_record := goodIn_r _ [12, 13, 14, 15, 4, 16, 17, 1, 18, 19, 20, 21, 22, 23, 24, 25, 26, 27, 28, 29, 30, 31, 32, 33, 34, 35, 36, 37, 38, 39, 40, 41, 42, 43] (by decide +kernel) (by decide +kernel)
set_option maxRecDepth 20000 in
theorem gX5_set_X5_record : GoodIn wsX5_set (wsV RX5 60 RX5 yX5_record wsX5_record) := goodIn_app (goodIn_of _ (by decide +kernel)) ggX5_set_X5_record
theorem dX5_set_0 : decode cX5_set 0 = .ok (.iload_n 1, 1) := by decide +kernel
theorem dX5_set_1 : decode cX5_set 1 = .ok (.iconst 0, 1) := by decide +kernel
theorem dX5_set_2 : decode cX5_set 2 = .ok (.iconst 4, 1) := by decide +kernel
theorem dX5_set_3 : decode cX5_set 3 = .ok (.invokestatic 80, 3) := by decide +kernel
theorem dX5_set_6 : decode cX5_set 6 = .ok (.ifCond .ne 5, 3) := by decide +kernel
theorem dX5_set_9 : decode cX5_set 9 = .ok (.iconst (-1), 1) := by decide +kernel
theorem dX5_set_10 : decode cX5_set 10 = .ok (.ireturn, 1) := by decide +kernel
theorem dX5_set_11 : decode cX5_set 11 = .ok (.iload_n 1, 1) := by decide +kernel
theorem dX5_set_12 : decode cX5_set 12 = .ok (.iload_n 2, 1) := by decide +kernel
theorem dX5_set_13 : decode cX5_set 13 = .ok (.invokestatic 100, 3) := by decide +kernel
theorem dX5_set_16 : decode cX5_set 16 = .ok (.ifCond .ne 6, 3) := by decide +kernel
theorem dX5_set_19 : decode cX5_set 19 = .ok (.bipush (-2), 2) := by decide +kernel
theorem dX5_set_21 : decode cX5_set 21 = .ok (.ireturn, 1) := by decide +kernel
theorem dX5_set_22 : decode cX5_set 22 = .ok (.aload_n 0, 1) := by decide +kernel
theorem dX5_set_23 : decode cX5_set 23 = .ok (.getfield 7, 3) := by decide +kernel
theorem dX5_set_26 : decode cX5_set 26 = .ok (.iload_n 1, 1) := by decide +kernel
theorem dX5_set_27 : decode cX5_set 27 = .ok (.iaload, 1) := by decide +kernel
theorem dX5_set_28 : decode cX5_set 28 = .ok (.istore_n 3, 1) := by decide +kernel
theorem dX5_set_29 : decode cX5_set 29 = .ok (.iload_n 3, 1) := by decide +kernel
theorem dX5_set_30 : decode cX5_set 30 = .ok (.iload_n 2, 1) := by decide +kernel
theorem dX5_set_31 : decode cX5_set 31 = .ok (.if_icmp .ne 6, 3) := by decide +kernel
theorem dX5_set_34 : decode cX5_set 34 = .ok (.bipush (-5), 2) := by decide +kernel
theorem dX5_set_36 : decode cX5_set 36 = .ok (.ireturn, 1) := by decide +kernel
theorem dX5_set_37 : decode cX5_set 37 = .ok (.aload_n 0, 1) := by decide +kernel
theorem dX5_set_38 : decode cX5_set 38 = .ok (.invokevirtual 60, 3) := by decide +kernel
theorem dX5_set_41 : decode cX5_set 41 = .ok (.aload_n 0, 1) := by decide +kernel
theorem dX5_set_42 : decode cX5_set 42 = .ok (.getfield 7, 3) := by decide +kernel
theorem dX5_set_45 : decode cX5_set 45 = .ok (.iload_n 1, 1) := by decide +kernel
theorem dX5_set_46 : decode cX5_set 46 = .ok (.iload_n 2, 1) := by decide +kernel
theorem dX5_set_47 : decode cX5_set 47 = .ok (.iastore, 1) := by decide +kernel
theorem dX5_set_48 : decode cX5_set 48 = .ok (.iload_n 3, 1) := by decide +kernel
theorem dX5_set_49 : decode cX5_set 49 = .ok (.ireturn, 1) := by decide +kernel
set_option maxRecDepth 20000 in
theorem ggX5_learn_X5_learned : GoodIn wsX5_learn wsX5_learned := goodIn_r _ [6, 7, 8, 9, 5, 10, 1, 11, 12, 13, 14, 15, 16, 17, 18, 19, 20, 21, 37, 38, 39, 40, 41, 42, 43, 44, 45, 46, 47, 48, 49, 50, 51, 52, 53, 54, 55, 56] (by decide +kernel) (by decide +kernel)
set_option maxRecDepth 20000 in
theorem gX5_learn_X5_learned : GoodIn wsX5_learn (wsV RX5 103 RX5 yX5_learned wsX5_learned) := goodIn_app (goodIn_of _ (by decide +kernel)) ggX5_learn_X5_learned
set_option maxRecDepth 20000 in
theorem ggX5_learn_X5_record : GoodIn wsX5_learn wsX5_record := goodIn_r _ [25, 26, 27, 28, 5, 29, 30, 1, 31, 32, 33, 34, 35, 36, 37, 38, 39, 40, 41, 42, 43, 44, 45, 46, 47, 48, 49, 50, 51, 52, 53, 54, 55, 56] (by decide +kernel) (by decide +kernel)
set_option maxRecDepth 20000 in
theorem gX5_learn_X5_record : GoodIn wsX5_learn (wsV RX5 60 RX5 yX5_record wsX5_record) := goodIn_app (goodIn_of _ (by decide +kernel)) ggX5_learn_X5_record
theorem dX5_learn_0 : decode cX5_learn 0 = .ok (.aload_n 0, 1) := by decide +kernel
theorem dX5_learn_1 : decode cX5_learn 1 = .ok (.invokevirtual 103, 3) := by decide +kernel
theorem dX5_learn_4 : decode cX5_learn 4 = .ok (.istore_n 1, 1) := by decide +kernel
theorem dX5_learn_5 : decode cX5_learn 5 = .ok (.iload_n 1, 1) := by decide +kernel
theorem dX5_learn_6 : decode cX5_learn 6 = .ok (.bipush (-5), 2) := by decide +kernel
theorem dX5_learn_8 : decode cX5_learn 8 = .ok (.if_icmp .eq 13, 3) := by decide +kernel
theorem dX5_learn_11 : decode cX5_learn 11 = .ok (.iload_n 1, 1) := by decide +kernel
theorem dX5_learn_12 : decode cX5_learn 12 = .ok (.aload_n 0, 1) := by decide +kernel
theorem dX5_learn_13 : decode cX5_learn 13 = .ok (.getfield 7, 3) := by decide +kernel
theorem dX5_learn_16 : decode cX5_learn 16 = .ok (.iconst 1, 1) := by decide +kernel
theorem dX5_learn_17 : decode cX5_learn 17 = .ok (.iaload, 1) := by decide +kernel
theorem dX5_learn_18 : decode cX5_learn 18 = .ok (.if_icmp .ne 6, 3) := by decide +kernel
theorem dX5_learn_21 : decode cX5_learn 21 = .ok (.bipush (-5), 2) := by decide +kernel
theorem dX5_learn_23 : decode cX5_learn 23 = .ok (.ireturn, 1) := by decide +kernel
theorem dX5_learn_24 : decode cX5_learn 24 = .ok (.aload_n 0, 1) := by decide +kernel
theorem dX5_learn_25 : decode cX5_learn 25 = .ok (.invokevirtual 60, 3) := by decide +kernel
theorem dX5_learn_28 : decode cX5_learn 28 = .ok (.aload_n 0, 1) := by decide +kernel
theorem dX5_learn_29 : decode cX5_learn 29 = .ok (.getfield 7, 3) := by decide +kernel
theorem dX5_learn_32 : decode cX5_learn 32 = .ok (.iconst 1, 1) := by decide +kernel
theorem dX5_learn_33 : decode cX5_learn 33 = .ok (.iload_n 1, 1) := by decide +kernel
theorem dX5_learn_34 : decode cX5_learn 34 = .ok (.iastore, 1) := by decide +kernel
theorem dX5_learn_35 : decode cX5_learn 35 = .ok (.iload_n 1, 1) := by decide +kernel
theorem dX5_learn_36 : decode cX5_learn 36 = .ok (.ireturn, 1) := by decide +kernel
theorem dX5_levelAt_0 : decode cX5_levelAt 0 = .ok (.iload_n 1, 1) := by decide +kernel
theorem dX5_levelAt_1 : decode cX5_levelAt 1 = .ok (.ifCond .lt 13, 3) := by decide +kernel
theorem dX5_levelAt_4 : decode cX5_levelAt 4 = .ok (.iload_n 1, 1) := by decide +kernel
theorem dX5_levelAt_5 : decode cX5_levelAt 5 = .ok (.aload_n 0, 1) := by decide +kernel
theorem dX5_levelAt_6 : decode cX5_levelAt 6 = .ok (.getfield 7, 3) := by decide +kernel
theorem dX5_levelAt_9 : decode cX5_levelAt 9 = .ok (.iconst 5, 1) := by decide +kernel
theorem dX5_levelAt_10 : decode cX5_levelAt 10 = .ok (.iaload, 1) := by decide +kernel
theorem dX5_levelAt_11 : decode cX5_levelAt 11 = .ok (.if_icmp .lt 7, 3) := by decide +kernel
theorem dX5_levelAt_14 : decode cX5_levelAt 14 = .ok (.iconst 1, 1) := by decide +kernel
theorem dX5_levelAt_15 : decode cX5_levelAt 15 = .ok (.goto 12, 3) := by decide +kernel
theorem dX5_levelAt_18 : decode cX5_levelAt 18 = .ok (.aload_n 0, 1) := by decide +kernel
theorem dX5_levelAt_19 : decode cX5_levelAt 19 = .ok (.getfield 7, 3) := by decide +kernel
theorem dX5_levelAt_22 : decode cX5_levelAt 22 = .ok (.bipush 47, 2) := by decide +kernel
theorem dX5_levelAt_24 : decode cX5_levelAt 24 = .ok (.iload_n 1, 1) := by decide +kernel
theorem dX5_levelAt_25 : decode cX5_levelAt 25 = .ok (.iadd, 1) := by decide +kernel
theorem dX5_levelAt_26 : decode cX5_levelAt 26 = .ok (.iaload, 1) := by decide +kernel
theorem dX5_levelAt_27 : decode cX5_levelAt 27 = .ok (.ireturn, 1) := by decide +kernel
set_option maxRecDepth 20000 in
theorem ggX5_isFall_X5_levelAt : GoodIn wsX5_isFall wsX5_levelAt := goodIn_r _ [5, 6, 7, 8, 9, 10, 11, 12, 13, 14, 15, 16, 17, 18, 19, 20, 21, 22, 23, 24, 25, 26] (by decide +kernel) (by decide +kernel)
set_option maxRecDepth 20000 in
theorem gX5_isFall_X5_levelAt : GoodIn wsX5_isFall (wsV RX5 106 RX5 yX5_levelAt wsX5_levelAt) := goodIn_app (goodIn_of _ (by decide +kernel)) ggX5_isFall_X5_levelAt
theorem dX5_isFall_0 : decode cX5_isFall 0 = .ok (.aload_n 0, 1) := by decide +kernel
theorem dX5_isFall_1 : decode cX5_isFall 1 = .ok (.iload_n 1, 1) := by decide +kernel
theorem dX5_isFall_2 : decode cX5_isFall 2 = .ok (.invokevirtual 106, 3) := by decide +kernel
theorem dX5_isFall_5 : decode cX5_isFall 5 = .ok (.ifCond .ne 18, 3) := by decide +kernel
theorem dX5_isFall_8 : decode cX5_isFall 8 = .ok (.aload_n 0, 1) := by decide +kernel
theorem dX5_isFall_9 : decode cX5_isFall 9 = .ok (.iload_n 1, 1) := by decide +kernel
theorem dX5_isFall_10 : decode cX5_isFall 10 = .ok (.iconst 1, 1) := by decide +kernel
theorem dX5_isFall_11 : decode cX5_isFall 11 = .ok (.isub, 1) := by decide +kernel
theorem dX5_isFall_12 : decode cX5_isFall 12 = .ok (.invokevirtual 106, 3) := by decide +kernel
theorem dX5_isFall_15 : decode cX5_isFall 15 = .ok (.iconst 1, 1) := by decide +kernel
theorem dX5_isFall_16 : decode cX5_isFall 16 = .ok (.if_icmp .ne 7, 3) := by decide +kernel
theorem dX5_isFall_19 : decode cX5_isFall 19 = .ok (.iconst 1, 1) := by decide +kernel
theorem dX5_isFall_20 : decode cX5_isFall 20 = .ok (.goto 4, 3) := by decide +kernel
theorem dX5_isFall_23 : decode cX5_isFall 23 = .ok (.iconst 0, 1) := by decide +kernel
theorem dX5_isFall_24 : decode cX5_isFall 24 = .ok (.ireturn, 1) := by decide +kernel
set_option maxRecDepth 20000 in
theorem ggX5_bit_X5_levelAt : GoodIn wsX5_bit wsX5_levelAt := goodIn_r _ [8, 3, 9, 10, 11, 12, 13, 14, 15, 16, 17, 18, 19, 20, 21, 22, 23, 24, 25, 26, 27, 28] (by decide +kernel) (by decide +kernel)
set_option maxRecDepth 20000 in
theorem gX5_bit_X5_levelAt : GoodIn wsX5_bit (wsV RX5 106 RX5 yX5_levelAt wsX5_levelAt) := goodIn_app (goodIn_of _ (by decide +kernel)) ggX5_bit_X5_levelAt
theorem dX5_bit_0 : decode cX5_bit 0 = .ok (.aload_n 0, 1) := by decide +kernel
theorem dX5_bit_1 : decode cX5_bit 1 = .ok (.iload_n 1, 1) := by decide +kernel
theorem dX5_bit_2 : decode cX5_bit 2 = .ok (.iload_n 2, 1) := by decide +kernel
theorem dX5_bit_3 : decode cX5_bit 3 = .ok (.iconst 3, 1) := by decide +kernel
theorem dX5_bit_4 : decode cX5_bit 4 = .ok (.idiv, 1) := by decide +kernel
theorem dX5_bit_5 : decode cX5_bit 5 = .ok (.iadd, 1) := by decide +kernel
theorem dX5_bit_6 : decode cX5_bit 6 = .ok (.invokevirtual 106, 3) := by decide +kernel
theorem dX5_bit_9 : decode cX5_bit 9 = .ok (.istore_n 3, 1) := by decide +kernel
theorem dX5_bit_10 : decode cX5_bit 10 = .ok (.aload_n 0, 1) := by decide +kernel
theorem dX5_bit_11 : decode cX5_bit 11 = .ok (.iload_n 1, 1) := by decide +kernel
theorem dX5_bit_12 : decode cX5_bit 12 = .ok (.iload_n 2, 1) := by decide +kernel
theorem dX5_bit_13 : decode cX5_bit 13 = .ok (.iconst 2, 1) := by decide +kernel
theorem dX5_bit_14 : decode cX5_bit 14 = .ok (.idiv, 1) := by decide +kernel
theorem dX5_bit_15 : decode cX5_bit 15 = .ok (.iadd, 1) := by decide +kernel
theorem dX5_bit_16 : decode cX5_bit 16 = .ok (.invokevirtual 106, 3) := by decide +kernel
theorem dX5_bit_19 : decode cX5_bit 19 = .ok (.istore 4, 2) := by decide +kernel
theorem dX5_bit_21 : decode cX5_bit 21 = .ok (.aload_n 0, 1) := by decide +kernel
theorem dX5_bit_22 : decode cX5_bit 22 = .ok (.iload_n 1, 1) := by decide +kernel
theorem dX5_bit_23 : decode cX5_bit 23 = .ok (.iconst 2, 1) := by decide +kernel
theorem dX5_bit_24 : decode cX5_bit 24 = .ok (.iload_n 2, 1) := by decide +kernel
theorem dX5_bit_25 : decode cX5_bit 25 = .ok (.imul, 1) := by decide +kernel
theorem dX5_bit_26 : decode cX5_bit 26 = .ok (.iconst 3, 1) := by decide +kernel
theorem dX5_bit_27 : decode cX5_bit 27 = .ok (.idiv, 1) := by decide +kernel
theorem dX5_bit_28 : decode cX5_bit 28 = .ok (.iadd, 1) := by decide +kernel
theorem dX5_bit_29 : decode cX5_bit 29 = .ok (.invokevirtual 106, 3) := by decide +kernel
theorem dX5_bit_32 : decode cX5_bit 32 = .ok (.istore 5, 2) := by decide +kernel
theorem dX5_bit_34 : decode cX5_bit 34 = .ok (.iload_n 3, 1) := by decide +kernel
theorem dX5_bit_35 : decode cX5_bit 35 = .ok (.iload 4, 2) := by decide +kernel
theorem dX5_bit_37 : decode cX5_bit 37 = .ok (.iadd, 1) := by decide +kernel
theorem dX5_bit_38 : decode cX5_bit 38 = .ok (.iload 5, 2) := by decide +kernel
theorem dX5_bit_40 : decode cX5_bit 40 = .ok (.iadd, 1) := by decide +kernel
theorem dX5_bit_41 : decode cX5_bit 41 = .ok (.istore 6, 2) := by decide +kernel
theorem dX5_bit_43 : decode cX5_bit 43 = .ok (.aload_n 0, 1) := by decide +kernel
theorem dX5_bit_44 : decode cX5_bit 44 = .ok (.getfield 40, 3) := by decide +kernel
theorem dX5_bit_47 : decode cX5_bit 47 = .ok (.aload_n 0, 1) := by decide +kernel
theorem dX5_bit_48 : decode cX5_bit 48 = .ok (.getfield 109, 3) := by decide +kernel
theorem dX5_bit_51 : decode cX5_bit 51 = .ok (.dup2, 1) := by decide +kernel
theorem dX5_bit_52 : decode cX5_bit 52 = .ok (.iaload, 1) := by decide +kernel
theorem dX5_bit_53 : decode cX5_bit 53 = .ok (.iload 6, 2) := by decide +kernel
theorem dX5_bit_55 : decode cX5_bit 55 = .ok (.iconst 3, 1) := by decide +kernel
theorem dX5_bit_56 : decode cX5_bit 56 = .ok (.irem, 1) := by decide +kernel
theorem dX5_bit_57 : decode cX5_bit 57 = .ok (.ifCond .ne 7, 3) := by decide +kernel
theorem dX5_bit_60 : decode cX5_bit 60 = .ok (.iconst 0, 1) := by decide +kernel
theorem dX5_bit_61 : decode cX5_bit 61 = .ok (.goto 4, 3) := by decide +kernel
theorem dX5_bit_64 : decode cX5_bit 64 = .ok (.iconst 1, 1) := by decide +kernel
theorem dX5_bit_65 : decode cX5_bit 65 = .ok (.iadd, 1) := by decide +kernel
theorem dX5_bit_66 : decode cX5_bit 66 = .ok (.iastore, 1) := by decide +kernel
theorem dX5_bit_67 : decode cX5_bit 67 = .ok (.aload_n 0, 1) := by decide +kernel
theorem dX5_bit_68 : decode cX5_bit 68 = .ok (.getfield 7, 3) := by decide +kernel
theorem dX5_bit_71 : decode cX5_bit 71 = .ok (.iconst 4, 1) := by decide +kernel
theorem dX5_bit_72 : decode cX5_bit 72 = .ok (.iaload, 1) := by decide +kernel
theorem dX5_bit_73 : decode cX5_bit 73 = .ok (.iconst 1, 1) := by decide +kernel
theorem dX5_bit_74 : decode cX5_bit 74 = .ok (.if_icmp .ne 8, 3) := by decide +kernel
theorem dX5_bit_77 : decode cX5_bit 77 = .ok (.iload 4, 2) := by decide +kernel
theorem dX5_bit_79 : decode cX5_bit 79 = .ok (.goto 14, 3) := by decide +kernel
theorem dX5_bit_82 : decode cX5_bit 82 = .ok (.iload 6, 2) := by decide +kernel
theorem dX5_bit_84 : decode cX5_bit 84 = .ok (.iconst 1, 1) := by decide +kernel
theorem dX5_bit_85 : decode cX5_bit 85 = .ok (.if_icmp .le 7, 3) := by decide +kernel
theorem dX5_bit_88 : decode cX5_bit 88 = .ok (.iconst 1, 1) := by decide +kernel
theorem dX5_bit_89 : decode cX5_bit 89 = .ok (.goto 4, 3) := by decide +kernel
theorem dX5_bit_92 : decode cX5_bit 92 = .ok (.iconst 0, 1) := by decide +kernel
theorem dX5_bit_93 : decode cX5_bit 93 = .ok (.ireturn, 1) := by decide +kernel
set_option maxRecDepth 20000 in
theorem ggX5_tells_X5_bit : GoodIn wsX5_tells wsX5_bit := goodIn_r _ [12, 1, 2, 3, 13, 14, 15, 11, 16, 24, 25, 26, 27, 28, 29, 30, 31, 32, 33, 34, 35, 36, 37, 38, 39, 40, 41, 42, 43] (by decide +kernel) (by decide +kernel)
set_option maxRecDepth 20000 in
theorem gX5_tells_X5_bit : GoodIn wsX5_tells (wsV RX5 112 RX5 yX5_bit wsX5_bit) := goodIn_app (goodIn_of _ (by decide +kernel)) ggX5_tells_X5_bit
set_option maxRecDepth 20000 in
theorem ggX5_tells_X5_parityOf : GoodIn wsX5_tells wsX5_parityOf := goodIn_r _ [20, 3, 21, 22, 11, 23, 24, 25, 26, 27, 28, 29, 30, 31, 32, 33, 34, 35, 36, 37, 38, 39, 40, 41, 42, 43] (by decide +kernel) (by decide +kernel)
set_option maxRecDepth 20000 in
theorem gX5_tells_X5_parityOf : GoodIn wsX5_tells (wsV RX5 67 RX5 yX5_parityOf wsX5_parityOf) := goodIn_app (goodIn_of _ (by decide +kernel)) ggX5_tells_X5_parityOf
theorem dX5_tells_0 : decode cX5_tells 0 = .ok (.aload_n 0, 1) := by decide +kernel
theorem dX5_tells_1 : decode cX5_tells 1 = .ok (.getfield 40, 3) := by decide +kernel
theorem dX5_tells_4 : decode cX5_tells 4 = .ok (.aload_n 0, 1) := by decide +kernel
theorem dX5_tells_5 : decode cX5_tells 5 = .ok (.getfield 109, 3) := by decide +kernel
theorem dX5_tells_8 : decode cX5_tells 8 = .ok (.iconst 0, 1) := by decide +kernel
theorem dX5_tells_9 : decode cX5_tells 9 = .ok (.iastore, 1) := by decide +kernel
theorem dX5_tells_10 : decode cX5_tells 10 = .ok (.aload_n 0, 1) := by decide +kernel
theorem dX5_tells_11 : decode cX5_tells 11 = .ok (.iload_n 1, 1) := by decide +kernel
theorem dX5_tells_12 : decode cX5_tells 12 = .ok (.iload_n 2, 1) := by decide +kernel
theorem dX5_tells_13 : decode cX5_tells 13 = .ok (.invokevirtual 112, 3) := by decide +kernel
theorem dX5_tells_16 : decode cX5_tells 16 = .ok (.iconst 1, 1) := by decide +kernel
theorem dX5_tells_17 : decode cX5_tells 17 = .ok (.if_icmp .ne 5, 3) := by decide +kernel
theorem dX5_tells_20 : decode cX5_tells 20 = .ok (.iconst 0, 1) := by decide +kernel
theorem dX5_tells_21 : decode cX5_tells 21 = .ok (.ireturn, 1) := by decide +kernel
theorem dX5_tells_22 : decode cX5_tells 22 = .ok (.aload_n 0, 1) := by decide +kernel
theorem dX5_tells_23 : decode cX5_tells 23 = .ok (.getfield 7, 3) := by decide +kernel
theorem dX5_tells_26 : decode cX5_tells 26 = .ok (.iconst 2, 1) := by decide +kernel
theorem dX5_tells_27 : decode cX5_tells 27 = .ok (.iaload, 1) := by decide +kernel
theorem dX5_tells_28 : decode cX5_tells 28 = .ok (.ifCond .le 8, 3) := by decide +kernel
theorem dX5_tells_31 : decode cX5_tells 31 = .ok (.bipush 11, 2) := by decide +kernel
theorem dX5_tells_33 : decode cX5_tells 33 = .ok (.goto 5, 3) := by decide +kernel
theorem dX5_tells_36 : decode cX5_tells 36 = .ok (.bipush 10, 2) := by decide +kernel
theorem dX5_tells_38 : decode cX5_tells 38 = .ok (.istore_n 3, 1) := by decide +kernel
theorem dX5_tells_39 : decode cX5_tells 39 = .ok (.iconst 0, 1) := by decide +kernel
theorem dX5_tells_40 : decode cX5_tells 40 = .ok (.istore 4, 2) := by decide +kernel
theorem dX5_tells_42 : decode cX5_tells 42 = .ok (.iconst 1, 1) := by decide +kernel
theorem dX5_tells_43 : decode cX5_tells 43 = .ok (.istore 5, 2) := by decide +kernel
theorem dX5_tells_45 : decode cX5_tells 45 = .ok (.iload 5, 2) := by decide +kernel
theorem dX5_tells_47 : decode cX5_tells 47 = .ok (.bipush 9, 2) := by decide +kernel
theorem dX5_tells_49 : decode cX5_tells 49 = .ok (.if_icmp .ge 30, 3) := by decide +kernel
theorem dX5_tells_52 : decode cX5_tells 52 = .ok (.iload 4, 2) := by decide +kernel
theorem dX5_tells_54 : decode cX5_tells 54 = .ok (.aload_n 0, 1) := by decide +kernel
theorem dX5_tells_55 : decode cX5_tells 55 = .ok (.iload_n 1, 1) := by decide +kernel
theorem dX5_tells_56 : decode cX5_tells 56 = .ok (.iload 5, 2) := by decide +kernel
theorem dX5_tells_58 : decode cX5_tells 58 = .ok (.iload_n 2, 1) := by decide +kernel
theorem dX5_tells_59 : decode cX5_tells 59 = .ok (.imul, 1) := by decide +kernel
theorem dX5_tells_60 : decode cX5_tells 60 = .ok (.iadd, 1) := by decide +kernel
theorem dX5_tells_61 : decode cX5_tells 61 = .ok (.iload_n 2, 1) := by decide +kernel
theorem dX5_tells_62 : decode cX5_tells 62 = .ok (.invokevirtual 112, 3) := by decide +kernel
theorem dX5_tells_65 : decode cX5_tells 65 = .ok (.iload 5, 2) := by decide +kernel
theorem dX5_tells_67 : decode cX5_tells 67 = .ok (.iconst 1, 1) := by decide +kernel
theorem dX5_tells_68 : decode cX5_tells 68 = .ok (.isub, 1) := by decide +kernel
theorem dX5_tells_69 : decode cX5_tells 69 = .ok (.ishl, 1) := by decide +kernel
theorem dX5_tells_70 : decode cX5_tells 70 = .ok (.ior, 1) := by decide +kernel
theorem dX5_tells_71 : decode cX5_tells 71 = .ok (.istore 4, 2) := by decide +kernel
theorem dX5_tells_73 : decode cX5_tells 73 = .ok (.iinc 5 1, 3) := by decide +kernel
theorem dX5_tells_76 : decode cX5_tells 76 = .ok (.goto (-31), 3) := by decide +kernel
theorem dX5_tells_79 : decode cX5_tells 79 = .ok (.aload_n 0, 1) := by decide +kernel
theorem dX5_tells_80 : decode cX5_tells 80 = .ok (.getfield 7, 3) := by decide +kernel
theorem dX5_tells_83 : decode cX5_tells 83 = .ok (.iconst 2, 1) := by decide +kernel
theorem dX5_tells_84 : decode cX5_tells 84 = .ok (.iaload, 1) := by decide +kernel
theorem dX5_tells_85 : decode cX5_tells 85 = .ok (.ifCond .le 17, 3) := by decide +kernel
theorem dX5_tells_88 : decode cX5_tells 88 = .ok (.aload_n 0, 1) := by decide +kernel
theorem dX5_tells_89 : decode cX5_tells 89 = .ok (.iload_n 1, 1) := by decide +kernel
theorem dX5_tells_90 : decode cX5_tells 90 = .ok (.bipush 9, 2) := by decide +kernel
theorem dX5_tells_92 : decode cX5_tells 92 = .ok (.iload_n 2, 1) := by decide +kernel
theorem dX5_tells_93 : decode cX5_tells 93 = .ok (.imul, 1) := by decide +kernel
theorem dX5_tells_94 : decode cX5_tells 94 = .ok (.iadd, 1) := by decide +kernel
theorem dX5_tells_95 : decode cX5_tells 95 = .ok (.iload_n 2, 1) := by decide +kernel
theorem dX5_tells_96 : decode cX5_tells 96 = .ok (.invokevirtual 112, 3) := by decide +kernel
theorem dX5_tells_99 : decode cX5_tells 99 = .ok (.goto 4, 3) := by decide +kernel
theorem dX5_tells_102 : decode cX5_tells 102 = .ok (.iconst 0, 1) := by decide +kernel
theorem dX5_tells_103 : decode cX5_tells 103 = .ok (.istore 5, 2) := by decide +kernel
theorem dX5_tells_105 : decode cX5_tells 105 = .ok (.aload_n 0, 1) := by decide +kernel
theorem dX5_tells_106 : decode cX5_tells 106 = .ok (.iload_n 1, 1) := by decide +kernel
theorem dX5_tells_107 : decode cX5_tells 107 = .ok (.iload_n 3, 1) := by decide +kernel
theorem dX5_tells_108 : decode cX5_tells 108 = .ok (.iconst 1, 1) := by decide +kernel
theorem dX5_tells_109 : decode cX5_tells 109 = .ok (.isub, 1) := by decide +kernel
theorem dX5_tells_110 : decode cX5_tells 110 = .ok (.iload_n 2, 1) := by decide +kernel
theorem dX5_tells_111 : decode cX5_tells 111 = .ok (.imul, 1) := by decide +kernel
theorem dX5_tells_112 : decode cX5_tells 112 = .ok (.iadd, 1) := by decide +kernel
theorem dX5_tells_113 : decode cX5_tells 113 = .ok (.iload_n 2, 1) := by decide +kernel
theorem dX5_tells_114 : decode cX5_tells 114 = .ok (.invokevirtual 112, 3) := by decide +kernel
theorem dX5_tells_117 : decode cX5_tells 117 = .ok (.istore 6, 2) := by decide +kernel
theorem dX5_tells_119 : decode cX5_tells 119 = .ok (.aload_n 0, 1) := by decide +kernel
theorem dX5_tells_120 : decode cX5_tells 120 = .ok (.getfield 7, 3) := by decide +kernel
theorem dX5_tells_123 : decode cX5_tells 123 = .ok (.iconst 2, 1) := by decide +kernel
theorem dX5_tells_124 : decode cX5_tells 124 = .ok (.iaload, 1) := by decide +kernel
theorem dX5_tells_125 : decode cX5_tells 125 = .ok (.ifCond .le 18, 3) := by decide +kernel
theorem dX5_tells_128 : decode cX5_tells 128 = .ok (.iload 5, 2) := by decide +kernel
theorem dX5_tells_130 : decode cX5_tells 130 = .ok (.aload_n 0, 1) := by decide +kernel
theorem dX5_tells_131 : decode cX5_tells 131 = .ok (.iload 4, 2) := by decide +kernel
theorem dX5_tells_133 : decode cX5_tells 133 = .ok (.invokevirtual 67, 3) := by decide +kernel
theorem dX5_tells_136 : decode cX5_tells 136 = .ok (.if_icmp .eq 7, 3) := by decide +kernel
theorem dX5_tells_139 : decode cX5_tells 139 = .ok (.iconst 1, 1) := by decide +kernel
theorem dX5_tells_140 : decode cX5_tells 140 = .ok (.goto 4, 3) := by decide +kernel
theorem dX5_tells_143 : decode cX5_tells 143 = .ok (.iconst 0, 1) := by decide +kernel
theorem dX5_tells_144 : decode cX5_tells 144 = .ok (.istore 7, 2) := by decide +kernel
theorem dX5_tells_146 : decode cX5_tells 146 = .ok (.iload 4, 2) := by decide +kernel
theorem dX5_tells_148 : decode cX5_tells 148 = .ok (.ifCond .ne 17, 3) := by decide +kernel
theorem dX5_tells_151 : decode cX5_tells 151 = .ok (.iload 5, 2) := by decide +kernel
theorem dX5_tells_153 : decode cX5_tells 153 = .ok (.ifCond .ne 12, 3) := by decide +kernel
theorem dX5_tells_156 : decode cX5_tells 156 = .ok (.iload 6, 2) := by decide +kernel
theorem dX5_tells_158 : decode cX5_tells 158 = .ok (.ifCond .ne 7, 3) := by decide +kernel
theorem dX5_tells_161 : decode cX5_tells 161 = .ok (.iconst 1, 1) := by decide +kernel
theorem dX5_tells_162 : decode cX5_tells 162 = .ok (.goto 4, 3) := by decide +kernel
theorem dX5_tells_165 : decode cX5_tells 165 = .ok (.iconst 0, 1) := by decide +kernel
theorem dX5_tells_166 : decode cX5_tells 166 = .ok (.istore 8, 2) := by decide +kernel
theorem dX5_tells_168 : decode cX5_tells 168 = .ok (.aload_n 0, 1) := by decide +kernel
theorem dX5_tells_169 : decode cX5_tells 169 = .ok (.getfield 31, 3) := by decide +kernel
theorem dX5_tells_172 : decode cX5_tells 172 = .ok (.aload_n 0, 1) := by decide +kernel
theorem dX5_tells_173 : decode cX5_tells 173 = .ok (.getfield 109, 3) := by decide +kernel
theorem dX5_tells_176 : decode cX5_tells 176 = .ok (.iload 8, 2) := by decide +kernel
theorem dX5_tells_178 : decode cX5_tells 178 = .ok (.ifCond .eq 7, 3) := by decide +kernel
theorem dX5_tells_181 : decode cX5_tells 181 = .ok (.iconst 3, 1) := by decide +kernel
theorem dX5_tells_182 : decode cX5_tells 182 = .ok (.goto 22, 3) := by decide +kernel
theorem dX5_tells_185 : decode cX5_tells 185 = .ok (.iload 6, 2) := by decide +kernel
theorem dX5_tells_187 : decode cX5_tells 187 = .ok (.ifCond .ne 7, 3) := by decide +kernel
theorem dX5_tells_190 : decode cX5_tells 190 = .ok (.iconst 2, 1) := by decide +kernel
theorem dX5_tells_191 : decode cX5_tells 191 = .ok (.goto 13, 3) := by decide +kernel
theorem dX5_tells_194 : decode cX5_tells 194 = .ok (.iload 7, 2) := by decide +kernel
theorem dX5_tells_196 : decode cX5_tells 196 = .ok (.ifCond .eq 7, 3) := by decide +kernel
theorem dX5_tells_199 : decode cX5_tells 199 = .ok (.iconst 1, 1) := by decide +kernel
theorem dX5_tells_200 : decode cX5_tells 200 = .ok (.goto 4, 3) := by decide +kernel
theorem dX5_tells_203 : decode cX5_tells 203 = .ok (.iconst 0, 1) := by decide +kernel
theorem dX5_tells_204 : decode cX5_tells 204 = .ok (.iastore, 1) := by decide +kernel
theorem dX5_tells_205 : decode cX5_tells 205 = .ok (.aload_n 0, 1) := by decide +kernel
theorem dX5_tells_206 : decode cX5_tells 206 = .ok (.getfield 34, 3) := by decide +kernel
theorem dX5_tells_209 : decode cX5_tells 209 = .ok (.aload_n 0, 1) := by decide +kernel
theorem dX5_tells_210 : decode cX5_tells 210 = .ok (.getfield 109, 3) := by decide +kernel
theorem dX5_tells_213 : decode cX5_tells 213 = .ok (.iload 4, 2) := by decide +kernel
theorem dX5_tells_215 : decode cX5_tells 215 = .ok (.iastore, 1) := by decide +kernel
theorem dX5_tells_216 : decode cX5_tells 216 = .ok (.aload_n 0, 1) := by decide +kernel
theorem dX5_tells_217 : decode cX5_tells 217 = .ok (.getfield 37, 3) := by decide +kernel
theorem dX5_tells_220 : decode cX5_tells 220 = .ok (.aload_n 0, 1) := by decide +kernel
theorem dX5_tells_221 : decode cX5_tells 221 = .ok (.getfield 109, 3) := by decide +kernel
theorem dX5_tells_224 : decode cX5_tells 224 = .ok (.iload_n 1, 1) := by decide +kernel
theorem dX5_tells_225 : decode cX5_tells 225 = .ok (.iastore, 1) := by decide +kernel
theorem dX5_tells_226 : decode cX5_tells 226 = .ok (.aload_n 0, 1) := by decide +kernel
theorem dX5_tells_227 : decode cX5_tells 227 = .ok (.getfield 43, 3) := by decide +kernel
theorem dX5_tells_230 : decode cX5_tells 230 = .ok (.aload_n 0, 1) := by decide +kernel
theorem dX5_tells_231 : decode cX5_tells 231 = .ok (.getfield 109, 3) := by decide +kernel
theorem dX5_tells_234 : decode cX5_tells 234 = .ok (.iload_n 1, 1) := by decide +kernel
theorem dX5_tells_235 : decode cX5_tells 235 = .ok (.iload_n 3, 1) := by decide +kernel
theorem dX5_tells_236 : decode cX5_tells 236 = .ok (.iconst 1, 1) := by decide +kernel
theorem dX5_tells_237 : decode cX5_tells 237 = .ok (.isub, 1) := by decide +kernel
theorem dX5_tells_238 : decode cX5_tells 238 = .ok (.iload_n 2, 1) := by decide +kernel
theorem dX5_tells_239 : decode cX5_tells 239 = .ok (.imul, 1) := by decide +kernel
theorem dX5_tells_240 : decode cX5_tells 240 = .ok (.iadd, 1) := by decide +kernel
theorem dX5_tells_241 : decode cX5_tells 241 = .ok (.iconst 2, 1) := by decide +kernel
theorem dX5_tells_242 : decode cX5_tells 242 = .ok (.iload_n 2, 1) := by decide +kernel
theorem dX5_tells_243 : decode cX5_tells 243 = .ok (.imul, 1) := by decide +kernel
theorem dX5_tells_244 : decode cX5_tells 244 = .ok (.iconst 3, 1) := by decide +kernel
theorem dX5_tells_245 : decode cX5_tells 245 = .ok (.idiv, 1) := by decide +kernel
theorem dX5_tells_246 : decode cX5_tells 246 = .ok (.iadd, 1) := by decide +kernel
theorem dX5_tells_247 : decode cX5_tells 247 = .ok (.iastore, 1) := by decide +kernel
theorem dX5_tells_248 : decode cX5_tells 248 = .ok (.iconst 1, 1) := by decide +kernel
theorem dX5_tells_249 : decode cX5_tells 249 = .ok (.ireturn, 1) := by decide +kernel
set_option maxRecDepth 20000 in
theorem ggX5_receive_X5_isFall : GoodIn wsX5_receive wsX5_isFall := goodIn_r _ [12, 13, 14, 15, 11, 16, 4, 34, 35, 36, 37, 38, 39, 40, 41, 42, 43, 44, 45, 46, 47, 48, 49, 50, 51, 52, 53] (by decide +kernel) (by decide +kernel)
set_option maxRecDepth 20000 in
theorem gX5_receive_X5_isFall : GoodIn wsX5_receive (wsV RX5 121 RX5 yX5_isFall wsX5_isFall) := goodIn_app (goodIn_of _ (by decide +kernel)) ggX5_receive_X5_isFall
set_option maxRecDepth 20000 in
theorem ggX5_receive_X5_tells : GoodIn wsX5_receive wsX5_tells := goodIn_r _ [20, 7, 1, 4, 6, 21, 22, 5, 23, 24, 25, 11, 26, 13, 14, 15, 16, 27, 28, 29, 30, 31, 32, 33, 34, 35, 36, 37, 38, 39, 40, 41, 42, 43, 44, 45, 46, 47, 48, 49, 50, 51, 52, 53] (by decide +kernel) (by decide +kernel)
set_option maxRecDepth 20000 in
theorem gX5_receive_X5_tells : GoodIn wsX5_receive (wsV RX5 124 RX5 yX5_tells wsX5_tells) := goodIn_app (goodIn_of _ (by decide +kernel)) ggX5_receive_X5_tells
set_option maxRecDepth 20000 in
theorem ggX5_receive_X5_levelAt : GoodIn wsX5_receive wsX5_levelAt := goodIn_r _ [16, 4, 34, 35, 36, 37, 38, 39, 40, 41, 42, 43, 44, 45, 46, 47, 48, 49, 50, 51, 52, 53] (by decide +kernel) (by decide +kernel)
set_option maxRecDepth 20000 in
theorem gX5_receive_X5_levelAt : GoodIn wsX5_receive (wsV RX5 106 RX5 yX5_levelAt wsX5_levelAt) := goodIn_app (goodIn_of _ (by decide +kernel)) ggX5_receive_X5_levelAt
theorem dX5_receive_0 : decode cX5_receive 0 = .ok (.aload_n 0, 1) := by decide +kernel
theorem dX5_receive_1 : decode cX5_receive 1 = .ok (.iconst 0, 1) := by decide +kernel
theorem dX5_receive_2 : decode cX5_receive 2 = .ok (.putfield 109, 3) := by decide +kernel
theorem dX5_receive_5 : decode cX5_receive 5 = .ok (.aload_n 0, 1) := by decide +kernel
theorem dX5_receive_6 : decode cX5_receive 6 = .ok (.iconst 0, 1) := by decide +kernel
theorem dX5_receive_7 : decode cX5_receive 7 = .ok (.putfield 115, 3) := by decide +kernel
theorem dX5_receive_10 : decode cX5_receive 10 = .ok (.aload_n 0, 1) := by decide +kernel
theorem dX5_receive_11 : decode cX5_receive 11 = .ok (.iconst 0, 1) := by decide +kernel
theorem dX5_receive_12 : decode cX5_receive 12 = .ok (.putfield 118, 3) := by decide +kernel
theorem dX5_receive_15 : decode cX5_receive 15 = .ok (.iconst 0, 1) := by decide +kernel
theorem dX5_receive_16 : decode cX5_receive 16 = .ok (.istore_n 2, 1) := by decide +kernel
theorem dX5_receive_17 : decode cX5_receive 17 = .ok (.iload_n 2, 1) := by decide +kernel
theorem dX5_receive_18 : decode cX5_receive 18 = .ok (.aload_n 0, 1) := by decide +kernel
theorem dX5_receive_19 : decode cX5_receive 19 = .ok (.getfield 7, 3) := by decide +kernel
theorem dX5_receive_22 : decode cX5_receive 22 = .ok (.iconst 5, 1) := by decide +kernel
theorem dX5_receive_23 : decode cX5_receive 23 = .ok (.iaload, 1) := by decide +kernel
theorem dX5_receive_24 : decode cX5_receive 24 = .ok (.if_icmp .ge 119, 3) := by decide +kernel
theorem dX5_receive_27 : decode cX5_receive 27 = .ok (.aload_n 0, 1) := by decide +kernel
theorem dX5_receive_28 : decode cX5_receive 28 = .ok (.iload_n 2, 1) := by decide +kernel
theorem dX5_receive_29 : decode cX5_receive 29 = .ok (.invokevirtual 121, 3) := by decide +kernel
theorem dX5_receive_32 : decode cX5_receive 32 = .ok (.ifCond .ne 9, 3) := by decide +kernel
theorem dX5_receive_35 : decode cX5_receive 35 = .ok (.iinc 2 1, 3) := by decide +kernel
theorem dX5_receive_38 : decode cX5_receive 38 = .ok (.goto (-21), 3) := by decide +kernel
theorem dX5_receive_41 : decode cX5_receive 41 = .ok (.aload_n 0, 1) := by decide +kernel
theorem dX5_receive_42 : decode cX5_receive 42 = .ok (.iload_n 2, 1) := by decide +kernel
theorem dX5_receive_43 : decode cX5_receive 43 = .ok (.iload_n 1, 1) := by decide +kernel
theorem dX5_receive_44 : decode cX5_receive 44 = .ok (.invokevirtual 124, 3) := by decide +kernel
theorem dX5_receive_47 : decode cX5_receive 47 = .ok (.ifCond .eq 73, 3) := by decide +kernel
theorem dX5_receive_50 : decode cX5_receive 50 = .ok (.aload_n 0, 1) := by decide +kernel
theorem dX5_receive_51 : decode cX5_receive 51 = .ok (.getfield 43, 3) := by decide +kernel
theorem dX5_receive_54 : decode cX5_receive 54 = .ok (.aload_n 0, 1) := by decide +kernel
theorem dX5_receive_55 : decode cX5_receive 55 = .ok (.getfield 109, 3) := by decide +kernel
theorem dX5_receive_58 : decode cX5_receive 58 = .ok (.iaload, 1) := by decide +kernel
theorem dX5_receive_59 : decode cX5_receive 59 = .ok (.iconst 1, 1) := by decide +kernel
theorem dX5_receive_60 : decode cX5_receive 60 = .ok (.iadd, 1) := by decide +kernel
theorem dX5_receive_61 : decode cX5_receive 61 = .ok (.istore_n 2, 1) := by decide +kernel
theorem dX5_receive_62 : decode cX5_receive 62 = .ok (.aload_n 0, 1) := by decide +kernel
theorem dX5_receive_63 : decode cX5_receive 63 = .ok (.getfield 31, 3) := by decide +kernel
theorem dX5_receive_66 : decode cX5_receive 66 = .ok (.aload_n 0, 1) := by decide +kernel
theorem dX5_receive_67 : decode cX5_receive 67 = .ok (.getfield 109, 3) := by decide +kernel
theorem dX5_receive_70 : decode cX5_receive 70 = .ok (.iaload, 1) := by decide +kernel
theorem dX5_receive_71 : decode cX5_receive 71 = .ok (.iconst 3, 1) := by decide +kernel
theorem dX5_receive_72 : decode cX5_receive 72 = .ok (.if_icmp .ne 17, 3) := by decide +kernel
theorem dX5_receive_75 : decode cX5_receive 75 = .ok (.aload_n 0, 1) := by decide +kernel
theorem dX5_receive_76 : decode cX5_receive 76 = .ok (.iload_n 2, 1) := by decide +kernel
theorem dX5_receive_77 : decode cX5_receive 77 = .ok (.invokevirtual 106, 3) := by decide +kernel
theorem dX5_receive_80 : decode cX5_receive 80 = .ok (.ifCond .ne 9, 3) := by decide +kernel
theorem dX5_receive_83 : decode cX5_receive 83 = .ok (.iinc 2 1, 3) := by decide +kernel
theorem dX5_receive_86 : decode cX5_receive 86 = .ok (.goto (-24), 3) := by decide +kernel
theorem dX5_receive_89 : decode cX5_receive 89 = .ok (.aload_n 0, 1) := by decide +kernel
theorem dX5_receive_90 : decode cX5_receive 90 = .ok (.dup, 1) := by decide +kernel
theorem dX5_receive_91 : decode cX5_receive 91 = .ok (.getfield 118, 3) := by decide +kernel
theorem dX5_receive_94 : decode cX5_receive 94 = .ok (.aload_n 0, 1) := by decide +kernel
theorem dX5_receive_95 : decode cX5_receive 95 = .ok (.getfield 40, 3) := by decide +kernel
theorem dX5_receive_98 : decode cX5_receive 98 = .ok (.aload_n 0, 1) := by decide +kernel
theorem dX5_receive_99 : decode cX5_receive 99 = .ok (.getfield 109, 3) := by decide +kernel
theorem dX5_receive_102 : decode cX5_receive 102 = .ok (.iaload, 1) := by decide +kernel
theorem dX5_receive_103 : decode cX5_receive 103 = .ok (.iadd, 1) := by decide +kernel
theorem dX5_receive_104 : decode cX5_receive 104 = .ok (.putfield 118, 3) := by decide +kernel
theorem dX5_receive_107 : decode cX5_receive 107 = .ok (.aload_n 0, 1) := by decide +kernel
theorem dX5_receive_108 : decode cX5_receive 108 = .ok (.dup, 1) := by decide +kernel
theorem dX5_receive_109 : decode cX5_receive 109 = .ok (.getfield 109, 3) := by decide +kernel
theorem dX5_receive_112 : decode cX5_receive 112 = .ok (.iconst 1, 1) := by decide +kernel
theorem dX5_receive_113 : decode cX5_receive 113 = .ok (.iadd, 1) := by decide +kernel
theorem dX5_receive_114 : decode cX5_receive 114 = .ok (.putfield 109, 3) := by decide +kernel
theorem dX5_receive_117 : decode cX5_receive 117 = .ok (.goto (-100), 3) := by decide +kernel
theorem dX5_receive_120 : decode cX5_receive 120 = .ok (.aload_n 0, 1) := by decide +kernel
theorem dX5_receive_121 : decode cX5_receive 121 = .ok (.dup, 1) := by decide +kernel
theorem dX5_receive_122 : decode cX5_receive 122 = .ok (.getfield 115, 3) := by decide +kernel
theorem dX5_receive_125 : decode cX5_receive 125 = .ok (.iconst 1, 1) := by decide +kernel
theorem dX5_receive_126 : decode cX5_receive 126 = .ok (.iadd, 1) := by decide +kernel
theorem dX5_receive_127 : decode cX5_receive 127 = .ok (.putfield 115, 3) := by decide +kernel
theorem dX5_receive_130 : decode cX5_receive 130 = .ok (.iload_n 2, 1) := by decide +kernel
theorem dX5_receive_131 : decode cX5_receive 131 = .ok (.iconst 2, 1) := by decide +kernel
theorem dX5_receive_132 : decode cX5_receive 132 = .ok (.iload_n 1, 1) := by decide +kernel
theorem dX5_receive_133 : decode cX5_receive 133 = .ok (.imul, 1) := by decide +kernel
theorem dX5_receive_134 : decode cX5_receive 134 = .ok (.iconst 3, 1) := by decide +kernel
theorem dX5_receive_135 : decode cX5_receive 135 = .ok (.idiv, 1) := by decide +kernel
theorem dX5_receive_136 : decode cX5_receive 136 = .ok (.iconst 1, 1) := by decide +kernel
theorem dX5_receive_137 : decode cX5_receive 137 = .ok (.iadd, 1) := by decide +kernel
theorem dX5_receive_138 : decode cX5_receive 138 = .ok (.iadd, 1) := by decide +kernel
theorem dX5_receive_139 : decode cX5_receive 139 = .ok (.istore_n 2, 1) := by decide +kernel
theorem dX5_receive_140 : decode cX5_receive 140 = .ok (.goto (-123), 3) := by decide +kernel
theorem dX5_receive_143 : decode cX5_receive 143 = .ok (.return_, 1) := by decide +kernel
theorem dX5_ofKind_0 : decode cX5_ofKind 0 = .ok (.iconst 0, 1) := by decide +kernel
theorem dX5_ofKind_1 : decode cX5_ofKind 1 = .ok (.istore_n 2, 1) := by decide +kernel
theorem dX5_ofKind_2 : decode cX5_ofKind 2 = .ok (.iconst 0, 1) := by decide +kernel
theorem dX5_ofKind_3 : decode cX5_ofKind 3 = .ok (.istore_n 3, 1) := by decide +kernel
/-! ===== END printed ===== -/
