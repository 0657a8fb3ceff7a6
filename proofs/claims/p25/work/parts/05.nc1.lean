theorem dL_cell_0 : decode cL_cell 0 = .ok (.iload_n 1, 1) := by decide +kernel
theorem dL_cell_1 : decode cL_cell 1 = .ok (.aload_n 0, 1) := by decide +kernel
theorem dL_cell_2 : decode cL_cell 2 = .ok (.arraylength, 1) := by decide +kernel
theorem dL_cell_3 : decode cL_cell 3 = .ok (.if_icmp .ge 9, 3) := by decide +kernel
theorem dL_cell_6 : decode cL_cell 6 = .ok (.aload_n 0, 1) := by decide +kernel
theorem dL_cell_7 : decode cL_cell 7 = .ok (.iload_n 1, 1) := by decide +kernel
theorem dL_cell_8 : decode cL_cell 8 = .ok (.iaload, 1) := by decide +kernel
theorem dL_cell_9 : decode cL_cell 9 = .ok (.goto 13, 3) := by decide +kernel
theorem dL_cell_12 : decode cL_cell 12 = .ok (.ldc 7, 2) := by decide +kernel
theorem dL_cell_14 : decode cL_cell 14 = .ok (.iload_n 1, 1) := by decide +kernel
theorem dL_cell_15 : decode cL_cell 15 = .ok (.bipush 11, 2) := by decide +kernel
theorem dL_cell_17 : decode cL_cell 17 = .ok (.iadd, 1) := by decide +kernel
theorem dL_cell_18 : decode cL_cell 18 = .ok (.imul, 1) := by decide +kernel
theorem dL_cell_19 : decode cL_cell 19 = .ok (.ldc 8, 2) := by decide +kernel
theorem dL_cell_21 : decode cL_cell 21 = .ok (.iadd, 1) := by decide +kernel
theorem dL_cell_22 : decode cL_cell 22 = .ok (.ireturn, 1) := by decide +kernel
theorem dL_low_0 : decode cL_low 0 = .ok (.iload_n 0, 1) := by decide +kernel
theorem dL_low_1 : decode cL_low 1 = .ok (.ldc 9, 2) := by decide +kernel
theorem dL_low_3 : decode cL_low 3 = .ok (.iand, 1) := by decide +kernel
theorem dL_low_4 : decode cL_low 4 = .ok (.iload_n 1, 1) := by decide +kernel
theorem dL_low_5 : decode cL_low 5 = .ok (.irem, 1) := by decide +kernel
theorem dL_low_6 : decode cL_low 6 = .ok (.ireturn, 1) := by decide +kernel
theorem dL_level_0 : decode cL_level 0 = .ok (.iload_n 0, 1) := by decide +kernel
theorem dL_level_1 : decode cL_level 1 = .ok (.ifCond .lt 10, 3) := by decide +kernel
theorem dL_level_4 : decode cL_level 4 = .ok (.iload_n 0, 1) := by decide +kernel
theorem dL_level_5 : decode cL_level 5 = .ok (.aload_n 1, 1) := by decide +kernel
theorem dL_level_6 : decode cL_level 6 = .ok (.iconst 5, 1) := by decide +kernel
theorem dL_level_7 : decode cL_level 7 = .ok (.iaload, 1) := by decide +kernel
theorem dL_level_8 : decode cL_level 8 = .ok (.if_icmp .lt 7, 3) := by decide +kernel
theorem dL_level_11 : decode cL_level 11 = .ok (.iconst 1, 1) := by decide +kernel
theorem dL_level_12 : decode cL_level 12 = .ok (.goto 16, 3) := by decide +kernel
theorem dL_level_15 : decode cL_level 15 = .ok (.aload_n 2, 1) := by decide +kernel
theorem dL_level_16 : decode cL_level 16 = .ok (.iload_n 0, 1) := by decide +kernel
theorem dL_level_17 : decode cL_level 17 = .ok (.bipush 30, 2) := by decide +kernel
theorem dL_level_19 : decode cL_level 19 = .ok (.idiv, 1) := by decide +kernel
theorem dL_level_20 : decode cL_level 20 = .ok (.iaload, 1) := by decide +kernel
theorem dL_level_21 : decode cL_level 21 = .ok (.iload_n 0, 1) := by decide +kernel
theorem dL_level_22 : decode cL_level 22 = .ok (.bipush 30, 2) := by decide +kernel
theorem dL_level_24 : decode cL_level 24 = .ok (.irem, 1) := by decide +kernel
theorem dL_level_25 : decode cL_level 25 = .ok (.ishr, 1) := by decide +kernel
theorem dL_level_26 : decode cL_level 26 = .ok (.iconst 1, 1) := by decide +kernel
theorem dL_level_27 : decode cL_level 27 = .ok (.iand, 1) := by decide +kernel
theorem dL_level_28 : decode cL_level 28 = .ok (.ireturn, 1) := by decide +kernel
theorem dL_puts_0 : decode cL_puts 0 = .ok (.aload_n 2, 1) := by decide +kernel
theorem dL_puts_1 : decode cL_puts 1 = .ok (.iload_n 0, 1) := by decide +kernel
theorem dL_puts_2 : decode cL_puts 2 = .ok (.bipush 30, 2) := by decide +kernel
theorem dL_puts_4 : decode cL_puts 4 = .ok (.idiv, 1) := by decide +kernel
theorem dL_puts_5 : decode cL_puts 5 = .ok (.aload_n 2, 1) := by decide +kernel
theorem dL_puts_6 : decode cL_puts 6 = .ok (.iload_n 0, 1) := by decide +kernel
theorem dL_puts_7 : decode cL_puts 7 = .ok (.bipush 30, 2) := by decide +kernel
theorem dL_puts_9 : decode cL_puts 9 = .ok (.idiv, 1) := by decide +kernel
theorem dL_puts_10 : decode cL_puts 10 = .ok (.iaload, 1) := by decide +kernel
theorem dL_puts_11 : decode cL_puts 11 = .ok (.iconst 1, 1) := by decide +kernel
theorem dL_puts_12 : decode cL_puts 12 = .ok (.iload_n 0, 1) := by decide +kernel
theorem dL_puts_13 : decode cL_puts 13 = .ok (.bipush 30, 2) := by decide +kernel
theorem dL_puts_15 : decode cL_puts 15 = .ok (.irem, 1) := by decide +kernel
theorem dL_puts_16 : decode cL_puts 16 = .ok (.ishl, 1) := by decide +kernel
theorem dL_puts_17 : decode cL_puts 17 = .ok (.iconst (-1), 1) := by decide +kernel
theorem dL_puts_18 : decode cL_puts 18 = .ok (.ixor, 1) := by decide +kernel
theorem dL_puts_19 : decode cL_puts 19 = .ok (.iand, 1) := by decide +kernel
theorem dL_puts_20 : decode cL_puts 20 = .ok (.iload_n 1, 1) := by decide +kernel
theorem dL_puts_21 : decode cL_puts 21 = .ok (.iload_n 0, 1) := by decide +kernel
theorem dL_puts_22 : decode cL_puts 22 = .ok (.bipush 30, 2) := by decide +kernel
theorem dL_puts_24 : decode cL_puts 24 = .ok (.irem, 1) := by decide +kernel
theorem dL_puts_25 : decode cL_puts 25 = .ok (.ishl, 1) := by decide +kernel
theorem dL_puts_26 : decode cL_puts 26 = .ok (.ior, 1) := by decide +kernel
theorem dL_puts_27 : decode cL_puts 27 = .ok (.iastore, 1) := by decide +kernel
theorem dL_puts_28 : decode cL_puts 28 = .ok (.return_, 1) := by decide +kernel
theorem dL_parity_0 : decode cL_parity 0 = .ok (.aload_n 1, 1) := by decide +kernel
theorem dL_parity_1 : decode cL_parity 1 = .ok (.iconst 2, 1) := by decide +kernel
theorem dL_parity_2 : decode cL_parity 2 = .ok (.iaload, 1) := by decide +kernel
theorem dL_parity_3 : decode cL_parity 3 = .ok (.iconst 1, 1) := by decide +kernel
theorem dL_parity_4 : decode cL_parity 4 = .ok (.if_icmp .ne 7, 3) := by decide +kernel
theorem dL_parity_7 : decode cL_parity 7 = .ok (.iconst 0, 1) := by decide +kernel
theorem dL_parity_8 : decode cL_parity 8 = .ok (.goto 4, 3) := by decide +kernel
theorem dL_parity_11 : decode cL_parity 11 = .ok (.iconst 1, 1) := by decide +kernel
theorem dL_parity_12 : decode cL_parity 12 = .ok (.istore_n 2, 1) := by decide +kernel
theorem dL_parity_13 : decode cL_parity 13 = .ok (.iconst 0, 1) := by decide +kernel
theorem dL_parity_14 : decode cL_parity 14 = .ok (.istore_n 3, 1) := by decide +kernel
theorem dL_parity_15 : decode cL_parity 15 = .ok (.iload_n 3, 1) := by decide +kernel
theorem dL_parity_16 : decode cL_parity 16 = .ok (.bipush 8, 2) := by decide +kernel
theorem dL_parity_18 : decode cL_parity 18 = .ok (.if_icmp .ge 17, 3) := by decide +kernel
theorem dL_parity_21 : decode cL_parity 21 = .ok (.iload_n 2, 1) := by decide +kernel
theorem dL_parity_22 : decode cL_parity 22 = .ok (.iload_n 0, 1) := by decide +kernel
theorem dL_parity_23 : decode cL_parity 23 = .ok (.iload_n 3, 1) := by decide +kernel
theorem dL_parity_24 : decode cL_parity 24 = .ok (.ishr, 1) := by decide +kernel
theorem dL_parity_25 : decode cL_parity 25 = .ok (.iconst 1, 1) := by decide +kernel
theorem dL_parity_26 : decode cL_parity 26 = .ok (.iand, 1) := by decide +kernel
theorem dL_parity_27 : decode cL_parity 27 = .ok (.ixor, 1) := by decide +kernel
theorem dL_parity_28 : decode cL_parity 28 = .ok (.istore_n 2, 1) := by decide +kernel
theorem dL_parity_29 : decode cL_parity 29 = .ok (.iinc 3 1, 3) := by decide +kernel
theorem dL_parity_32 : decode cL_parity 32 = .ok (.goto (-17), 3) := by decide +kernel
theorem dL_parity_35 : decode cL_parity 35 = .ok (.iload_n 2, 1) := by decide +kernel
theorem dL_parity_36 : decode cL_parity 36 = .ok (.ireturn, 1) := by decide +kernel
set_option maxRecDepth 20000 in
theorem ggL_runs_L_puts : GoodIn wsL_runs wsL_puts := goodIn_r _ [4] (by decide +kernel) (by decide +kernel)
set_option maxRecDepth 20000 in
theorem gL_runs_L_puts : GoodIn wsL_runs (va_wsS RL 10 yL_puts wsL_puts) := goodIn_app (goodIn_of _ (by decide +kernel)) ggL_runs_L_puts
theorem dL_runs_0 : decode cL_runs 0 = .ok (.iconst 0, 1) := by decide +kernel
theorem dL_runs_1 : decode cL_runs 1 = .ok (.istore 4, 2) := by decide +kernel
theorem dL_runs_3 : decode cL_runs 3 = .ok (.iload 4, 2) := by decide +kernel
theorem dL_runs_5 : decode cL_runs 5 = .ok (.iload_n 1, 1) := by decide +kernel
theorem dL_runs_6 : decode cL_runs 6 = .ok (.if_icmp .ge 20, 3) := by decide +kernel
theorem dL_runs_9 : decode cL_runs 9 = .ok (.aload_n 2, 1) := by decide +kernel
theorem dL_runs_10 : decode cL_runs 10 = .ok (.iconst 5, 1) := by decide +kernel
theorem dL_runs_11 : decode cL_runs 11 = .ok (.iaload, 1) := by decide +kernel
theorem dL_runs_12 : decode cL_runs 12 = .ok (.iload 4, 2) := by decide +kernel
theorem dL_runs_14 : decode cL_runs 14 = .ok (.iadd, 1) := by decide +kernel
theorem dL_runs_15 : decode cL_runs 15 = .ok (.iload_n 0, 1) := by decide +kernel
theorem dL_runs_16 : decode cL_runs 16 = .ok (.aload_n 3, 1) := by decide +kernel
theorem dL_runs_17 : decode cL_runs 17 = .ok (.invokestatic 10, 3) := by decide +kernel
theorem dL_runs_20 : decode cL_runs 20 = .ok (.iinc 4 1, 3) := by decide +kernel
theorem dL_runs_23 : decode cL_runs 23 = .ok (.goto (-20), 3) := by decide +kernel
theorem dL_runs_26 : decode cL_runs 26 = .ok (.aload_n 2, 1) := by decide +kernel
theorem dL_runs_27 : decode cL_runs 27 = .ok (.iconst 5, 1) := by decide +kernel
theorem dL_runs_28 : decode cL_runs 28 = .ok (.dup2, 1) := by decide +kernel
theorem dL_runs_29 : decode cL_runs 29 = .ok (.iaload, 1) := by decide +kernel
theorem dL_runs_30 : decode cL_runs 30 = .ok (.iload_n 1, 1) := by decide +kernel
theorem dL_runs_31 : decode cL_runs 31 = .ok (.iadd, 1) := by decide +kernel
theorem dL_runs_32 : decode cL_runs 32 = .ok (.iastore, 1) := by decide +kernel
theorem dL_runs_33 : decode cL_runs 33 = .ok (.aload_n 2, 1) := by decide +kernel
theorem dL_runs_34 : decode cL_runs 34 = .ok (.iconst 5, 1) := by decide +kernel
theorem dL_runs_35 : decode cL_runs 35 = .ok (.iaload, 1) := by decide +kernel
theorem dL_runs_36 : decode cL_runs 36 = .ok (.ireturn, 1) := by decide +kernel
theorem dL_bitMany_0 : decode cL_bitMany 0 = .ok (.bipush 9, 2) := by decide +kernel
theorem dL_bitMany_2 : decode cL_bitMany 2 = .ok (.aload_n 0, 1) := by decide +kernel
theorem dL_bitMany_3 : decode cL_bitMany 3 = .ok (.iconst 3, 1) := by decide +kernel
theorem dL_bitMany_4 : decode cL_bitMany 4 = .ok (.iaload, 1) := by decide +kernel
theorem dL_bitMany_5 : decode cL_bitMany 5 = .ok (.iadd, 1) := by decide +kernel
theorem dL_bitMany_6 : decode cL_bitMany 6 = .ok (.aload_n 0, 1) := by decide +kernel
theorem dL_bitMany_7 : decode cL_bitMany 7 = .ok (.iconst 2, 1) := by decide +kernel
theorem dL_bitMany_8 : decode cL_bitMany 8 = .ok (.iaload, 1) := by decide +kernel
theorem dL_bitMany_9 : decode cL_bitMany 9 = .ok (.ifCond .le 7, 3) := by decide +kernel
theorem dL_bitMany_12 : decode cL_bitMany 12 = .ok (.iconst 1, 1) := by decide +kernel
theorem dL_bitMany_13 : decode cL_bitMany 13 = .ok (.goto 4, 3) := by decide +kernel
theorem dL_bitMany_16 : decode cL_bitMany 16 = .ok (.iconst 0, 1) := by decide +kernel
theorem dL_bitMany_17 : decode cL_bitMany 17 = .ok (.iadd, 1) := by decide +kernel
theorem dL_bitMany_18 : decode cL_bitMany 18 = .ok (.ireturn, 1) := by decide +kernel
set_option maxRecDepth 20000 in
theorem ggL_sends_L_bitMany : GoodIn wsL_sends wsL_bitMany := goodIn_r _ [4] (by decide +kernel) (by decide +kernel)
set_option maxRecDepth 20000 in
theorem gL_sends_L_bitMany : GoodIn wsL_sends (va_wsS RL 16 yL_bitMany wsL_bitMany) := goodIn_app (goodIn_of _ (by decide +kernel)) ggL_sends_L_bitMany
set_option maxRecDepth 20000 in
theorem ggL_sends_L_parity : GoodIn wsL_sends wsL_parity := goodIn_r _ [7] (by decide +kernel) (by decide +kernel)
set_option maxRecDepth 20000 in
theorem gL_sends_L_parity : GoodIn wsL_sends (va_wsS RL 20 yL_parity wsL_parity) := goodIn_app (goodIn_of _ (by decide +kernel)) ggL_sends_L_parity
set_option maxRecDepth 20000 in
theorem ggL_sends_L_runs : GoodIn wsL_sends wsL_runs := goodIn_r _ [10, 11, 12, 3, 13] (by decide +kernel) (by decide +kernel)
set_option maxRecDepth 20000 in
theorem gL_sends_L_runs : GoodIn wsL_sends (va_wsS RL 24 yL_runs wsL_runs) := goodIn_app (goodIn_of _ (by decide +kernel)) ggL_sends_L_runs
theorem dL_sends_0 : decode cL_sends 0 = .ok (.aload_n 1, 1) := by decide +kernel
theorem dL_sends_1 : decode cL_sends 1 = .ok (.iconst 5, 1) := by decide +kernel
theorem dL_sends_2 : decode cL_sends 2 = .ok (.iaload, 1) := by decide +kernel
theorem dL_sends_3 : decode cL_sends 3 = .ok (.istore 4, 2) := by decide +kernel
theorem dL_sends_5 : decode cL_sends 5 = .ok (.aload_n 1, 1) := by decide +kernel
theorem dL_sends_6 : decode cL_sends 6 = .ok (.invokestatic 16, 3) := by decide +kernel
theorem dL_sends_9 : decode cL_sends 9 = .ok (.istore 5, 2) := by decide +kernel
theorem dL_sends_11 : decode cL_sends 11 = .ok (.iload 4, 2) := by decide +kernel
theorem dL_sends_13 : decode cL_sends 13 = .ok (.iload 5, 2) := by decide +kernel
theorem dL_sends_15 : decode cL_sends 15 = .ok (.aload_n 1, 1) := by decide +kernel
theorem dL_sends_16 : decode cL_sends 16 = .ok (.iconst 0, 1) := by decide +kernel
theorem dL_sends_17 : decode cL_sends 17 = .ok (.iaload, 1) := by decide +kernel
theorem dL_sends_18 : decode cL_sends 18 = .ok (.imul, 1) := by decide +kernel
theorem dL_sends_19 : decode cL_sends 19 = .ok (.iconst 4, 1) := by decide +kernel
theorem dL_sends_20 : decode cL_sends 20 = .ok (.ishr, 1) := by decide +kernel
theorem dL_sends_21 : decode cL_sends 21 = .ok (.iadd, 1) := by decide +kernel
theorem dL_sends_22 : decode cL_sends 22 = .ok (.sipush 1500, 3) := by decide +kernel
theorem dL_sends_25 : decode cL_sends 25 = .ok (.if_icmp .le 6, 3) := by decide +kernel
theorem dL_sends_28 : decode cL_sends 28 = .ok (.bipush (-3), 2) := by decide +kernel
theorem dL_sends_30 : decode cL_sends 30 = .ok (.ireturn, 1) := by decide +kernel
theorem dL_sends_31 : decode cL_sends 31 = .ok (.iconst 0, 1) := by decide +kernel
theorem dL_sends_32 : decode cL_sends 32 = .ok (.istore 6, 2) := by decide +kernel
theorem dL_sends_34 : decode cL_sends 34 = .ok (.iload 6, 2) := by decide +kernel
theorem dL_sends_36 : decode cL_sends 36 = .ok (.iload 5, 2) := by decide +kernel
theorem dL_sends_38 : decode cL_sends 38 = .ok (.if_icmp .ge 85, 3) := by decide +kernel
theorem dL_sends_41 : decode cL_sends 41 = .ok (.iload 6, 2) := by decide +kernel
theorem dL_sends_43 : decode cL_sends 43 = .ok (.ifCond .ne 7, 3) := by decide +kernel
theorem dL_sends_46 : decode cL_sends 46 = .ok (.iconst 0, 1) := by decide +kernel
theorem dL_sends_47 : decode cL_sends 47 = .ok (.goto 43, 3) := by decide +kernel
theorem dL_sends_50 : decode cL_sends 50 = .ok (.iload 6, 2) := by decide +kernel
theorem dL_sends_52 : decode cL_sends 52 = .ok (.bipush 9, 2) := by decide +kernel
theorem dL_sends_54 : decode cL_sends 54 = .ok (.if_icmp .ge 14, 3) := by decide +kernel
theorem dL_sends_57 : decode cL_sends 57 = .ok (.iload_n 0, 1) := by decide +kernel
theorem dL_sends_58 : decode cL_sends 58 = .ok (.iload 6, 2) := by decide +kernel
theorem dL_sends_60 : decode cL_sends 60 = .ok (.iconst 1, 1) := by decide +kernel
theorem dL_sends_61 : decode cL_sends 61 = .ok (.isub, 1) := by decide +kernel
theorem dL_sends_62 : decode cL_sends 62 = .ok (.ishr, 1) := by decide +kernel
theorem dL_sends_63 : decode cL_sends 63 = .ok (.iconst 1, 1) := by decide +kernel
theorem dL_sends_64 : decode cL_sends 64 = .ok (.iand, 1) := by decide +kernel
theorem dL_sends_65 : decode cL_sends 65 = .ok (.goto 25, 3) := by decide +kernel
theorem dL_sends_68 : decode cL_sends 68 = .ok (.iload 6, 2) := by decide +kernel
theorem dL_sends_70 : decode cL_sends 70 = .ok (.bipush 9, 2) := by decide +kernel
theorem dL_sends_72 : decode cL_sends 72 = .ok (.if_icmp .ne 17, 3) := by decide +kernel
theorem dL_sends_75 : decode cL_sends 75 = .ok (.aload_n 1, 1) := by decide +kernel
theorem dL_sends_76 : decode cL_sends 76 = .ok (.iconst 2, 1) := by decide +kernel
theorem dL_sends_77 : decode cL_sends 77 = .ok (.iaload, 1) := by decide +kernel
theorem dL_sends_78 : decode cL_sends 78 = .ok (.ifCond .le 11, 3) := by decide +kernel
theorem dL_sends_81 : decode cL_sends 81 = .ok (.iload_n 0, 1) := by decide +kernel
theorem dL_sends_82 : decode cL_sends 82 = .ok (.aload_n 1, 1) := by decide +kernel
theorem dL_sends_83 : decode cL_sends 83 = .ok (.invokestatic 20, 3) := by decide +kernel
theorem dL_sends_86 : decode cL_sends 86 = .ok (.goto 4, 3) := by decide +kernel
theorem dL_sends_89 : decode cL_sends 89 = .ok (.iconst 1, 1) := by decide +kernel
theorem dL_sends_90 : decode cL_sends 90 = .ok (.istore 7, 2) := by decide +kernel
theorem dL_sends_92 : decode cL_sends 92 = .ok (.iload 7, 2) := by decide +kernel
theorem dL_sends_94 : decode cL_sends 94 = .ok (.iload 4, 2) := by decide +kernel
theorem dL_sends_96 : decode cL_sends 96 = .ok (.iload 6, 2) := by decide +kernel
theorem dL_sends_98 : decode cL_sends 98 = .ok (.iconst 1, 1) := by decide +kernel
theorem dL_sends_99 : decode cL_sends 99 = .ok (.iadd, 1) := by decide +kernel
theorem dL_sends_100 : decode cL_sends 100 = .ok (.aload_n 1, 1) := by decide +kernel
theorem dL_sends_101 : decode cL_sends 101 = .ok (.iconst 0, 1) := by decide +kernel
theorem dL_sends_102 : decode cL_sends 102 = .ok (.iaload, 1) := by decide +kernel
theorem dL_sends_103 : decode cL_sends 103 = .ok (.imul, 1) := by decide +kernel
theorem dL_sends_104 : decode cL_sends 104 = .ok (.iconst 4, 1) := by decide +kernel
theorem dL_sends_105 : decode cL_sends 105 = .ok (.ishr, 1) := by decide +kernel
theorem dL_sends_106 : decode cL_sends 106 = .ok (.iadd, 1) := by decide +kernel
theorem dL_sends_107 : decode cL_sends 107 = .ok (.aload_n 1, 1) := by decide +kernel
theorem dL_sends_108 : decode cL_sends 108 = .ok (.iconst 5, 1) := by decide +kernel
theorem dL_sends_109 : decode cL_sends 109 = .ok (.iaload, 1) := by decide +kernel
theorem dL_sends_110 : decode cL_sends 110 = .ok (.isub, 1) := by decide +kernel
theorem dL_sends_111 : decode cL_sends 111 = .ok (.aload_n 1, 1) := by decide +kernel
theorem dL_sends_112 : decode cL_sends 112 = .ok (.aload_n 3, 1) := by decide +kernel
theorem dL_sends_113 : decode cL_sends 113 = .ok (.invokestatic 24, 3) := by decide +kernel
theorem dL_sends_116 : decode cL_sends 116 = .ok (.pop, 1) := by decide +kernel
theorem dL_sends_117 : decode cL_sends 117 = .ok (.iinc 6 1, 3) := by decide +kernel
theorem dL_sends_120 : decode cL_sends 120 = .ok (.goto (-86), 3) := by decide +kernel
theorem dL_sends_123 : decode cL_sends 123 = .ok (.aload_n 2, 1) := by decide +kernel
theorem dL_sends_124 : decode cL_sends 124 = .ok (.aload_n 1, 1) := by decide +kernel
theorem dL_sends_125 : decode cL_sends 125 = .ok (.bipush 6, 2) := by decide +kernel
theorem dL_sends_127 : decode cL_sends 127 = .ok (.iaload, 1) := by decide +kernel
theorem dL_sends_128 : decode cL_sends 128 = .ok (.iload_n 0, 1) := by decide +kernel
theorem dL_sends_129 : decode cL_sends 129 = .ok (.iastore, 1) := by decide +kernel
theorem dL_sends_130 : decode cL_sends 130 = .ok (.aload_n 1, 1) := by decide +kernel
theorem dL_sends_131 : decode cL_sends 131 = .ok (.bipush 6, 2) := by decide +kernel
theorem dL_sends_133 : decode cL_sends 133 = .ok (.dup2, 1) := by decide +kernel
theorem dL_sends_134 : decode cL_sends 134 = .ok (.iaload, 1) := by decide +kernel
theorem dL_sends_135 : decode cL_sends 135 = .ok (.iconst 1, 1) := by decide +kernel
theorem dL_sends_136 : decode cL_sends 136 = .ok (.iadd, 1) := by decide +kernel
theorem dL_sends_137 : decode cL_sends 137 = .ok (.iastore, 1) := by decide +kernel
theorem dL_sends_138 : decode cL_sends 138 = .ok (.aload_n 1, 1) := by decide +kernel
theorem dL_sends_139 : decode cL_sends 139 = .ok (.iconst 5, 1) := by decide +kernel
theorem dL_sends_140 : decode cL_sends 140 = .ok (.iaload, 1) := by decide +kernel
theorem dL_sends_141 : decode cL_sends 141 = .ok (.ireturn, 1) := by decide +kernel
set_option maxRecDepth 20000 in
theorem ggL_looks_L_level : GoodIn wsL_looks wsL_level := goodIn_r _ [4] (by decide +kernel) (by decide +kernel)
set_option maxRecDepth 20000 in
theorem gL_looks_L_level : GoodIn wsL_looks (va_wsS RL 28 yL_level wsL_level) := goodIn_app (goodIn_of _ (by decide +kernel)) ggL_looks_L_level
theorem dL_looks_0 : decode cL_looks 0 = .ok (.iload_n 0, 1) := by decide +kernel
theorem dL_looks_1 : decode cL_looks 1 = .ok (.iload_n 1, 1) := by decide +kernel
theorem dL_looks_2 : decode cL_looks 2 = .ok (.iconst 2, 1) := by decide +kernel
theorem dL_looks_3 : decode cL_looks 3 = .ok (.idiv, 1) := by decide +kernel
theorem dL_looks_4 : decode cL_looks 4 = .ok (.iadd, 1) := by decide +kernel
theorem dL_looks_5 : decode cL_looks 5 = .ok (.aload_n 2, 1) := by decide +kernel
theorem dL_looks_6 : decode cL_looks 6 = .ok (.aload_n 3, 1) := by decide +kernel
theorem dL_looks_7 : decode cL_looks 7 = .ok (.invokestatic 28, 3) := by decide +kernel
theorem dL_looks_10 : decode cL_looks 10 = .ok (.istore 4, 2) := by decide +kernel
theorem dL_looks_12 : decode cL_looks 12 = .ok (.iload_n 0, 1) := by decide +kernel
theorem dL_looks_13 : decode cL_looks 13 = .ok (.iload_n 1, 1) := by decide +kernel
theorem dL_looks_14 : decode cL_looks 14 = .ok (.iconst 3, 1) := by decide +kernel
theorem dL_looks_15 : decode cL_looks 15 = .ok (.idiv, 1) := by decide +kernel
theorem dL_looks_16 : decode cL_looks 16 = .ok (.iadd, 1) := by decide +kernel
theorem dL_looks_17 : decode cL_looks 17 = .ok (.aload_n 2, 1) := by decide +kernel
theorem dL_looks_18 : decode cL_looks 18 = .ok (.aload_n 3, 1) := by decide +kernel
theorem dL_looks_19 : decode cL_looks 19 = .ok (.invokestatic 28, 3) := by decide +kernel
theorem dL_looks_22 : decode cL_looks 22 = .ok (.iload 4, 2) := by decide +kernel
theorem dL_looks_24 : decode cL_looks 24 = .ok (.iadd, 1) := by decide +kernel
theorem dL_looks_25 : decode cL_looks 25 = .ok (.iload_n 0, 1) := by decide +kernel
theorem dL_looks_26 : decode cL_looks 26 = .ok (.iconst 2, 1) := by decide +kernel
theorem dL_looks_27 : decode cL_looks 27 = .ok (.iload_n 1, 1) := by decide +kernel
theorem dL_looks_28 : decode cL_looks 28 = .ok (.imul, 1) := by decide +kernel
theorem dL_looks_29 : decode cL_looks 29 = .ok (.iconst 3, 1) := by decide +kernel
theorem dL_looks_30 : decode cL_looks 30 = .ok (.idiv, 1) := by decide +kernel
theorem dL_looks_31 : decode cL_looks 31 = .ok (.iadd, 1) := by decide +kernel
theorem dL_looks_32 : decode cL_looks 32 = .ok (.aload_n 2, 1) := by decide +kernel
theorem dL_looks_33 : decode cL_looks 33 = .ok (.aload_n 3, 1) := by decide +kernel
theorem dL_looks_34 : decode cL_looks 34 = .ok (.invokestatic 28, 3) := by decide +kernel
theorem dL_looks_37 : decode cL_looks 37 = .ok (.iadd, 1) := by decide +kernel
theorem dL_looks_38 : decode cL_looks 38 = .ok (.istore 5, 2) := by decide +kernel
theorem dL_looks_40 : decode cL_looks 40 = .ok (.aload_n 2, 1) := by decide +kernel
theorem dL_looks_41 : decode cL_looks 41 = .ok (.iconst 4, 1) := by decide +kernel
theorem dL_looks_42 : decode cL_looks 42 = .ok (.iaload, 1) := by decide +kernel
theorem dL_looks_43 : decode cL_looks 43 = .ok (.iconst 1, 1) := by decide +kernel
theorem dL_looks_44 : decode cL_looks 44 = .ok (.if_icmp .ne 8, 3) := by decide +kernel
theorem dL_looks_47 : decode cL_looks 47 = .ok (.iload 4, 2) := by decide +kernel
theorem dL_looks_49 : decode cL_looks 49 = .ok (.goto 14, 3) := by decide +kernel
theorem dL_looks_52 : decode cL_looks 52 = .ok (.iload 5, 2) := by decide +kernel
theorem dL_looks_54 : decode cL_looks 54 = .ok (.iconst 2, 1) := by decide +kernel
theorem dL_looks_55 : decode cL_looks 55 = .ok (.if_icmp .lt 7, 3) := by decide +kernel
theorem dL_looks_58 : decode cL_looks 58 = .ok (.iconst 1, 1) := by decide +kernel
theorem dL_looks_59 : decode cL_looks 59 = .ok (.goto 4, 3) := by decide +kernel
theorem dL_looks_62 : decode cL_looks 62 = .ok (.iconst 0, 1) := by decide +kernel
theorem dL_looks_63 : decode cL_looks 63 = .ok (.istore 6, 2) := by decide +kernel
theorem dL_looks_65 : decode cL_looks 65 = .ok (.bipush 10, 2) := by decide +kernel
theorem dL_looks_67 : decode cL_looks 67 = .ok (.iload 6, 2) := by decide +kernel
theorem dL_looks_69 : decode cL_looks 69 = .ok (.imul, 1) := by decide +kernel
theorem dL_looks_70 : decode cL_looks 70 = .ok (.iload 5, 2) := by decide +kernel
theorem dL_looks_72 : decode cL_looks 72 = .ok (.iadd, 1) := by decide +kernel
theorem dL_looks_73 : decode cL_looks 73 = .ok (.ireturn, 1) := by decide +kernel
set_option maxRecDepth 20000 in
theorem ggL_receives_L_level : GoodIn wsL_receives wsL_level := goodIn_r _ [4] (by decide +kernel) (by decide +kernel)
set_option maxRecDepth 20000 in
theorem gL_receives_L_level : GoodIn wsL_receives (va_wsS RL 28 yL_level wsL_level) := goodIn_app (goodIn_of _ (by decide +kernel)) ggL_receives_L_level
set_option maxRecDepth 20000 in
theorem ggL_receives_L_looks : GoodIn wsL_receives wsL_looks := goodIn_r _ [7, 1, 2, 3, 4] (by decide +kernel) (by decide +kernel)
set_option maxRecDepth 20000 in
theorem gL_receives_L_looks : GoodIn wsL_receives (va_wsS RL 32 yL_looks wsL_looks) := goodIn_app (goodIn_of _ (by decide +kernel)) ggL_receives_L_looks
set_option maxRecDepth 20000 in
theorem ggL_receives_L_parity : GoodIn wsL_receives wsL_parity := goodIn_r _ [10] (by decide +kernel) (by decide +kernel)
set_option maxRecDepth 20000 in
theorem gL_receives_L_parity : GoodIn wsL_receives (va_wsS RL 20 yL_parity wsL_parity) := goodIn_app (goodIn_of _ (by decide +kernel)) ggL_receives_L_parity
theorem dL_receives_0 : decode cL_receives 0 = .ok (.iconst 1, 1) := by decide +kernel
theorem dL_receives_1 : decode cL_receives 1 = .ok (.istore 7, 2) := by decide +kernel
theorem dL_receives_3 : decode cL_receives 3 = .ok (.aload_n 2, 1) := by decide +kernel
theorem dL_receives_4 : decode cL_receives 4 = .ok (.iconst 2, 1) := by decide +kernel
theorem dL_receives_5 : decode cL_receives 5 = .ok (.iaload, 1) := by decide +kernel
theorem dL_receives_6 : decode cL_receives 6 = .ok (.ifCond .le 8, 3) := by decide +kernel
theorem dL_receives_9 : decode cL_receives 9 = .ok (.bipush 11, 2) := by decide +kernel
theorem dL_receives_11 : decode cL_receives 11 = .ok (.goto 5, 3) := by decide +kernel
theorem dL_receives_14 : decode cL_receives 14 = .ok (.bipush 10, 2) := by decide +kernel
theorem dL_receives_16 : decode cL_receives 16 = .ok (.istore 8, 2) := by decide +kernel
theorem dL_receives_18 : decode cL_receives 18 = .ok (.iconst 0, 1) := by decide +kernel
theorem dL_receives_19 : decode cL_receives 19 = .ok (.istore 9, 2) := by decide +kernel
theorem dL_receives_21 : decode cL_receives 21 = .ok (.iload 9, 2) := by decide +kernel
theorem dL_receives_23 : decode cL_receives 23 = .ok (.bipush 7, 2) := by decide +kernel
theorem dL_receives_25 : decode cL_receives 25 = .ok (.if_icmp .ge 15, 3) := by decide +kernel
theorem dL_receives_28 : decode cL_receives 28 = .ok (.aload 5, 2) := by decide +kernel
theorem dL_receives_30 : decode cL_receives 30 = .ok (.iload 9, 2) := by decide +kernel
theorem dL_receives_32 : decode cL_receives 32 = .ok (.iconst 0, 1) := by decide +kernel
theorem dL_receives_33 : decode cL_receives 33 = .ok (.iastore, 1) := by decide +kernel
theorem dL_receives_34 : decode cL_receives 34 = .ok (.iinc 9 1, 3) := by decide +kernel
theorem dL_receives_37 : decode cL_receives 37 = .ok (.goto (-16), 3) := by decide +kernel
theorem dL_receives_40 : decode cL_receives 40 = .ok (.iconst 0, 1) := by decide +kernel
theorem dL_receives_41 : decode cL_receives 41 = .ok (.istore 9, 2) := by decide +kernel
theorem dL_receives_43 : decode cL_receives 43 = .ok (.iload 9, 2) := by decide +kernel
theorem dL_receives_45 : decode cL_receives 45 = .ok (.aload_n 2, 1) := by decide +kernel
theorem dL_receives_46 : decode cL_receives 46 = .ok (.iconst 5, 1) := by decide +kernel
theorem dL_receives_47 : decode cL_receives 47 = .ok (.iaload, 1) := by decide +kernel
theorem dL_receives_48 : decode cL_receives 48 = .ok (.if_icmp .ge 373, 3) := by decide +kernel
theorem dL_receives_51 : decode cL_receives 51 = .ok (.iload 9, 2) := by decide +kernel
theorem dL_receives_53 : decode cL_receives 53 = .ok (.aload_n 2, 1) := by decide +kernel
theorem dL_receives_54 : decode cL_receives 54 = .ok (.aload 4, 2) := by decide +kernel
theorem dL_receives_56 : decode cL_receives 56 = .ok (.invokestatic 28, 3) := by decide +kernel
theorem dL_receives_59 : decode cL_receives 59 = .ok (.iconst 1, 1) := by decide +kernel
theorem dL_receives_60 : decode cL_receives 60 = .ok (.if_icmp .eq 16, 3) := by decide +kernel
theorem dL_receives_63 : decode cL_receives 63 = .ok (.iload 9, 2) := by decide +kernel
theorem dL_receives_65 : decode cL_receives 65 = .ok (.iconst 1, 1) := by decide +kernel
theorem dL_receives_66 : decode cL_receives 66 = .ok (.isub, 1) := by decide +kernel
theorem dL_receives_67 : decode cL_receives 67 = .ok (.aload_n 2, 1) := by decide +kernel
theorem dL_receives_68 : decode cL_receives 68 = .ok (.aload 4, 2) := by decide +kernel
theorem dL_receives_70 : decode cL_receives 70 = .ok (.invokestatic 28, 3) := by decide +kernel
theorem dL_receives_73 : decode cL_receives 73 = .ok (.ifCond .ne 9, 3) := by decide +kernel
theorem dL_receives_76 : decode cL_receives 76 = .ok (.iinc 9 1, 3) := by decide +kernel
theorem dL_receives_79 : decode cL_receives 79 = .ok (.goto (-36), 3) := by decide +kernel
theorem dL_receives_82 : decode cL_receives 82 = .ok (.iload 9, 2) := by decide +kernel
theorem dL_receives_84 : decode cL_receives 84 = .ok (.iload_n 0, 1) := by decide +kernel
theorem dL_receives_85 : decode cL_receives 85 = .ok (.aload_n 2, 1) := by decide +kernel
theorem dL_receives_86 : decode cL_receives 86 = .ok (.aload 4, 2) := by decide +kernel
theorem dL_receives_88 : decode cL_receives 88 = .ok (.invokestatic 32, 3) := by decide +kernel
theorem dL_receives_91 : decode cL_receives 91 = .ok (.bipush 10, 2) := by decide +kernel
theorem dL_receives_93 : decode cL_receives 93 = .ok (.if_icmp .lt 26, 3) := by decide +kernel
theorem dL_receives_96 : decode cL_receives 96 = .ok (.aload 5, 2) := by decide +kernel
theorem dL_receives_98 : decode cL_receives 98 = .ok (.iconst 5, 1) := by decide +kernel
theorem dL_receives_99 : decode cL_receives 99 = .ok (.dup2, 1) := by decide +kernel
theorem dL_receives_100 : decode cL_receives 100 = .ok (.iaload, 1) := by decide +kernel
theorem dL_receives_101 : decode cL_receives 101 = .ok (.iconst 1, 1) := by decide +kernel
theorem dL_receives_102 : decode cL_receives 102 = .ok (.iadd, 1) := by decide +kernel
theorem dL_receives_103 : decode cL_receives 103 = .ok (.iastore, 1) := by decide +kernel
theorem dL_receives_104 : decode cL_receives 104 = .ok (.iload 9, 2) := by decide +kernel
theorem dL_receives_106 : decode cL_receives 106 = .ok (.iconst 2, 1) := by decide +kernel
theorem dL_receives_107 : decode cL_receives 107 = .ok (.iload_n 0, 1) := by decide +kernel
theorem dL_receives_108 : decode cL_receives 108 = .ok (.imul, 1) := by decide +kernel
theorem dL_receives_109 : decode cL_receives 109 = .ok (.iconst 3, 1) := by decide +kernel
theorem dL_receives_110 : decode cL_receives 110 = .ok (.idiv, 1) := by decide +kernel
theorem dL_receives_111 : decode cL_receives 111 = .ok (.iconst 1, 1) := by decide +kernel
theorem dL_receives_112 : decode cL_receives 112 = .ok (.iadd, 1) := by decide +kernel
theorem dL_receives_113 : decode cL_receives 113 = .ok (.iadd, 1) := by decide +kernel
theorem dL_receives_114 : decode cL_receives 114 = .ok (.istore 9, 2) := by decide +kernel
theorem dL_receives_116 : decode cL_receives 116 = .ok (.goto (-73), 3) := by decide +kernel
theorem dL_receives_119 : decode cL_receives 119 = .ok (.iconst 0, 1) := by decide +kernel
theorem dL_receives_120 : decode cL_receives 120 = .ok (.istore 10, 2) := by decide +kernel
theorem dL_receives_122 : decode cL_receives 122 = .ok (.iconst 0, 1) := by decide +kernel
theorem dL_receives_123 : decode cL_receives 123 = .ok (.istore 11, 2) := by decide +kernel
theorem dL_receives_125 : decode cL_receives 125 = .ok (.iconst 0, 1) := by decide +kernel
theorem dL_receives_126 : decode cL_receives 126 = .ok (.istore 12, 2) := by decide +kernel
theorem dL_receives_128 : decode cL_receives 128 = .ok (.iload 12, 2) := by decide +kernel
theorem dL_receives_130 : decode cL_receives 130 = .ok (.iload 8, 2) := by decide +kernel
theorem dL_receives_132 : decode cL_receives 132 = .ok (.if_icmp .ge 66, 3) := by decide +kernel
theorem dL_receives_135 : decode cL_receives 135 = .ok (.iload 9, 2) := by decide +kernel
theorem dL_receives_137 : decode cL_receives 137 = .ok (.iload 12, 2) := by decide +kernel
theorem dL_receives_139 : decode cL_receives 139 = .ok (.iload_n 0, 1) := by decide +kernel
theorem dL_receives_140 : decode cL_receives 140 = .ok (.imul, 1) := by decide +kernel
theorem dL_receives_141 : decode cL_receives 141 = .ok (.iadd, 1) := by decide +kernel
theorem dL_receives_142 : decode cL_receives 142 = .ok (.iload_n 0, 1) := by decide +kernel
theorem dL_receives_143 : decode cL_receives 143 = .ok (.aload_n 2, 1) := by decide +kernel
theorem dL_receives_144 : decode cL_receives 144 = .ok (.aload 4, 2) := by decide +kernel
theorem dL_receives_146 : decode cL_receives 146 = .ok (.invokestatic 32, 3) := by decide +kernel
theorem dL_receives_149 : decode cL_receives 149 = .ok (.istore 13, 2) := by decide +kernel
theorem dL_receives_151 : decode cL_receives 151 = .ok (.iload 10, 2) := by decide +kernel
theorem dL_receives_153 : decode cL_receives 153 = .ok (.iload 13, 2) := by decide +kernel
theorem dL_receives_155 : decode cL_receives 155 = .ok (.bipush 10, 2) := by decide +kernel
theorem dL_receives_157 : decode cL_receives 157 = .ok (.idiv, 1) := by decide +kernel
theorem dL_receives_158 : decode cL_receives 158 = .ok (.iload 12, 2) := by decide +kernel
theorem dL_receives_160 : decode cL_receives 160 = .ok (.ishl, 1) := by decide +kernel
theorem dL_receives_161 : decode cL_receives 161 = .ok (.ior, 1) := by decide +kernel
theorem dL_receives_162 : decode cL_receives 162 = .ok (.istore 10, 2) := by decide +kernel
theorem dL_receives_164 : decode cL_receives 164 = .ok (.iload 11, 2) := by decide +kernel
theorem dL_receives_166 : decode cL_receives 166 = .ok (.iload 13, 2) := by decide +kernel
theorem dL_receives_168 : decode cL_receives 168 = .ok (.bipush 10, 2) := by decide +kernel
theorem dL_receives_170 : decode cL_receives 170 = .ok (.irem, 1) := by decide +kernel
theorem dL_receives_171 : decode cL_receives 171 = .ok (.iconst 1, 1) := by decide +kernel
theorem dL_receives_172 : decode cL_receives 172 = .ok (.if_icmp .eq 12, 3) := by decide +kernel
theorem dL_receives_175 : decode cL_receives 175 = .ok (.iload 13, 2) := by decide +kernel
theorem dL_receives_177 : decode cL_receives 177 = .ok (.bipush 10, 2) := by decide +kernel
theorem dL_receives_179 : decode cL_receives 179 = .ok (.irem, 1) := by decide +kernel
theorem dL_receives_180 : decode cL_receives 180 = .ok (.iconst 2, 1) := by decide +kernel
theorem dL_receives_181 : decode cL_receives 181 = .ok (.if_icmp .ne 7, 3) := by decide +kernel
theorem dL_receives_184 : decode cL_receives 184 = .ok (.iconst 1, 1) := by decide +kernel
theorem dL_receives_185 : decode cL_receives 185 = .ok (.goto 4, 3) := by decide +kernel
theorem dL_receives_188 : decode cL_receives 188 = .ok (.iconst 0, 1) := by decide +kernel
theorem dL_receives_189 : decode cL_receives 189 = .ok (.iadd, 1) := by decide +kernel
theorem dL_receives_190 : decode cL_receives 190 = .ok (.istore 11, 2) := by decide +kernel
theorem dL_receives_192 : decode cL_receives 192 = .ok (.iinc 12 1, 3) := by decide +kernel
theorem dL_receives_195 : decode cL_receives 195 = .ok (.goto (-67), 3) := by decide +kernel
theorem dL_receives_198 : decode cL_receives 198 = .ok (.iload 10, 2) := by decide +kernel
theorem dL_receives_200 : decode cL_receives 200 = .ok (.iconst 1, 1) := by decide +kernel
theorem dL_receives_201 : decode cL_receives 201 = .ok (.ishr, 1) := by decide +kernel
theorem dL_receives_202 : decode cL_receives 202 = .ok (.sipush 255, 3) := by decide +kernel
theorem dL_receives_205 : decode cL_receives 205 = .ok (.iand, 1) := by decide +kernel
theorem dL_receives_206 : decode cL_receives 206 = .ok (.istore 12, 2) := by decide +kernel
theorem dL_receives_208 : decode cL_receives 208 = .ok (.iload 10, 2) := by decide +kernel
theorem dL_receives_210 : decode cL_receives 210 = .ok (.iload 8, 2) := by decide +kernel
theorem dL_receives_212 : decode cL_receives 212 = .ok (.iconst 1, 1) := by decide +kernel
theorem dL_receives_213 : decode cL_receives 213 = .ok (.isub, 1) := by decide +kernel
theorem dL_receives_214 : decode cL_receives 214 = .ok (.ishr, 1) := by decide +kernel
theorem dL_receives_215 : decode cL_receives 215 = .ok (.iconst 1, 1) := by decide +kernel
theorem dL_receives_216 : decode cL_receives 216 = .ok (.iand, 1) := by decide +kernel
theorem dL_receives_217 : decode cL_receives 217 = .ok (.istore 13, 2) := by decide +kernel
theorem dL_receives_219 : decode cL_receives 219 = .ok (.iload 10, 2) := by decide +kernel
theorem dL_receives_221 : decode cL_receives 221 = .ok (.ifCond .ne 7, 3) := by decide +kernel
theorem dL_receives_224 : decode cL_receives 224 = .ok (.iconst 3, 1) := by decide +kernel
theorem dL_receives_225 : decode cL_receives 225 = .ok (.goto 39, 3) := by decide +kernel
theorem dL_receives_228 : decode cL_receives 228 = .ok (.iload 13, 2) := by decide +kernel
theorem dL_receives_230 : decode cL_receives 230 = .ok (.ifCond .ne 7, 3) := by decide +kernel
theorem dL_receives_233 : decode cL_receives 233 = .ok (.iconst 2, 1) := by decide +kernel
theorem dL_receives_234 : decode cL_receives 234 = .ok (.goto 30, 3) := by decide +kernel
theorem dL_receives_237 : decode cL_receives 237 = .ok (.aload_n 2, 1) := by decide +kernel
theorem dL_receives_238 : decode cL_receives 238 = .ok (.iconst 2, 1) := by decide +kernel
theorem dL_receives_239 : decode cL_receives 239 = .ok (.iaload, 1) := by decide +kernel
theorem dL_receives_240 : decode cL_receives 240 = .ok (.ifCond .le 23, 3) := by decide +kernel
theorem dL_receives_243 : decode cL_receives 243 = .ok (.iload 10, 2) := by decide +kernel
theorem dL_receives_245 : decode cL_receives 245 = .ok (.bipush 9, 2) := by decide +kernel
theorem dL_receives_247 : decode cL_receives 247 = .ok (.ishr, 1) := by decide +kernel
theorem dL_receives_248 : decode cL_receives 248 = .ok (.iconst 1, 1) := by decide +kernel
theorem dL_receives_249 : decode cL_receives 249 = .ok (.iand, 1) := by decide +kernel
theorem dL_receives_250 : decode cL_receives 250 = .ok (.iload 12, 2) := by decide +kernel
theorem dL_receives_252 : decode cL_receives 252 = .ok (.aload_n 2, 1) := by decide +kernel
theorem dL_receives_253 : decode cL_receives 253 = .ok (.invokestatic 20, 3) := by decide +kernel
theorem dL_receives_256 : decode cL_receives 256 = .ok (.if_icmp .eq 7, 3) := by decide +kernel
theorem dL_receives_259 : decode cL_receives 259 = .ok (.iconst 1, 1) := by decide +kernel
theorem dL_receives_260 : decode cL_receives 260 = .ok (.goto 4, 3) := by decide +kernel
theorem dL_receives_263 : decode cL_receives 263 = .ok (.iconst 0, 1) := by decide +kernel
theorem dL_receives_264 : decode cL_receives 264 = .ok (.istore 14, 2) := by decide +kernel
theorem dL_receives_266 : decode cL_receives 266 = .ok (.iload 9, 2) := by decide +kernel
theorem dL_receives_268 : decode cL_receives 268 = .ok (.iload 8, 2) := by decide +kernel
theorem dL_receives_270 : decode cL_receives 270 = .ok (.iconst 1, 1) := by decide +kernel
theorem dL_receives_271 : decode cL_receives 271 = .ok (.isub, 1) := by decide +kernel
theorem dL_receives_272 : decode cL_receives 272 = .ok (.iload_n 0, 1) := by decide +kernel
theorem dL_receives_273 : decode cL_receives 273 = .ok (.imul, 1) := by decide +kernel
theorem dL_receives_274 : decode cL_receives 274 = .ok (.iadd, 1) := by decide +kernel
theorem dL_receives_275 : decode cL_receives 275 = .ok (.iconst 2, 1) := by decide +kernel
theorem dL_receives_276 : decode cL_receives 276 = .ok (.iload_n 0, 1) := by decide +kernel
theorem dL_receives_277 : decode cL_receives 277 = .ok (.imul, 1) := by decide +kernel
theorem dL_receives_278 : decode cL_receives 278 = .ok (.iconst 3, 1) := by decide +kernel
theorem dL_receives_279 : decode cL_receives 279 = .ok (.idiv, 1) := by decide +kernel
theorem dL_receives_280 : decode cL_receives 280 = .ok (.iadd, 1) := by decide +kernel
theorem dL_receives_281 : decode cL_receives 281 = .ok (.istore 15, 2) := by decide +kernel
theorem dL_receives_283 : decode cL_receives 283 = .ok (.aload 5, 2) := by decide +kernel
theorem dL_receives_285 : decode cL_receives 285 = .ok (.iconst 0, 1) := by decide +kernel
theorem dL_receives_286 : decode cL_receives 286 = .ok (.iaload, 1) := by decide +kernel
theorem dL_receives_287 : decode cL_receives 287 = .ok (.iload_n 1, 1) := by decide +kernel
theorem dL_receives_288 : decode cL_receives 288 = .ok (.if_icmp .ne 33, 3) := by decide +kernel
theorem dL_receives_291 : decode cL_receives 291 = .ok (.aload 6, 2) := by decide +kernel
theorem dL_receives_293 : decode cL_receives 293 = .ok (.iconst 0, 1) := by decide +kernel
theorem dL_receives_294 : decode cL_receives 294 = .ok (.iload 14, 2) := by decide +kernel
theorem dL_receives_296 : decode cL_receives 296 = .ok (.iastore, 1) := by decide +kernel
theorem dL_receives_297 : decode cL_receives 297 = .ok (.aload 6, 2) := by decide +kernel
theorem dL_receives_299 : decode cL_receives 299 = .ok (.iconst 1, 1) := by decide +kernel
theorem dL_receives_300 : decode cL_receives 300 = .ok (.iload 12, 2) := by decide +kernel
theorem dL_receives_302 : decode cL_receives 302 = .ok (.iastore, 1) := by decide +kernel
theorem dL_receives_303 : decode cL_receives 303 = .ok (.aload 6, 2) := by decide +kernel
theorem dL_receives_305 : decode cL_receives 305 = .ok (.iconst 2, 1) := by decide +kernel
theorem dL_receives_306 : decode cL_receives 306 = .ok (.iload 9, 2) := by decide +kernel
theorem dL_receives_308 : decode cL_receives 308 = .ok (.iastore, 1) := by decide +kernel
theorem dL_receives_309 : decode cL_receives 309 = .ok (.aload 6, 2) := by decide +kernel
theorem dL_receives_311 : decode cL_receives 311 = .ok (.iconst 3, 1) := by decide +kernel
theorem dL_receives_312 : decode cL_receives 312 = .ok (.iload 11, 2) := by decide +kernel
theorem dL_receives_314 : decode cL_receives 314 = .ok (.iastore, 1) := by decide +kernel
theorem dL_receives_315 : decode cL_receives 315 = .ok (.aload 6, 2) := by decide +kernel
theorem dL_receives_317 : decode cL_receives 317 = .ok (.iconst 4, 1) := by decide +kernel
theorem dL_receives_318 : decode cL_receives 318 = .ok (.iload 15, 2) := by decide +kernel
theorem dL_receives_320 : decode cL_receives 320 = .ok (.iastore, 1) := by decide +kernel
theorem dL_receives_321 : decode cL_receives 321 = .ok (.iload 7, 2) := by decide +kernel
theorem dL_receives_323 : decode cL_receives 323 = .ok (.ifCond .eq 34, 3) := by decide +kernel
theorem dL_receives_326 : decode cL_receives 326 = .ok (.iload 14, 2) := by decide +kernel
theorem dL_receives_328 : decode cL_receives 328 = .ok (.ifCond .ne 29, 3) := by decide +kernel
theorem dL_receives_331 : decode cL_receives 331 = .ok (.aload 5, 2) := by decide +kernel
theorem dL_receives_333 : decode cL_receives 333 = .ok (.iconst 0, 1) := by decide +kernel
theorem dL_receives_334 : decode cL_receives 334 = .ok (.iaload, 1) := by decide +kernel
theorem dL_receives_335 : decode cL_receives 335 = .ok (.aload_n 2, 1) := by decide +kernel
theorem dL_receives_336 : decode cL_receives 336 = .ok (.bipush 6, 2) := by decide +kernel
theorem dL_receives_338 : decode cL_receives 338 = .ok (.iaload, 1) := by decide +kernel
theorem dL_receives_339 : decode cL_receives 339 = .ok (.if_icmp .ge 18, 3) := by decide +kernel
theorem dL_receives_342 : decode cL_receives 342 = .ok (.aload_n 3, 1) := by decide +kernel
theorem dL_receives_343 : decode cL_receives 343 = .ok (.aload 5, 2) := by decide +kernel
theorem dL_receives_345 : decode cL_receives 345 = .ok (.iconst 0, 1) := by decide +kernel
theorem dL_receives_346 : decode cL_receives 346 = .ok (.iaload, 1) := by decide +kernel
theorem dL_receives_347 : decode cL_receives 347 = .ok (.iaload, 1) := by decide +kernel
theorem dL_receives_348 : decode cL_receives 348 = .ok (.iload 12, 2) := by decide +kernel
theorem dL_receives_350 : decode cL_receives 350 = .ok (.if_icmp .ne 7, 3) := by decide +kernel
theorem dL_receives_353 : decode cL_receives 353 = .ok (.iconst 1, 1) := by decide +kernel
theorem dL_receives_354 : decode cL_receives 354 = .ok (.goto 4, 3) := by decide +kernel
theorem dL_receives_357 : decode cL_receives 357 = .ok (.iconst 0, 1) := by decide +kernel
theorem dL_receives_358 : decode cL_receives 358 = .ok (.istore 7, 2) := by decide +kernel
theorem dL_receives_360 : decode cL_receives 360 = .ok (.aload 5, 2) := by decide +kernel
theorem dL_receives_362 : decode cL_receives 362 = .ok (.iconst 0, 1) := by decide +kernel
theorem dL_receives_363 : decode cL_receives 363 = .ok (.dup2, 1) := by decide +kernel
theorem dL_receives_364 : decode cL_receives 364 = .ok (.iaload, 1) := by decide +kernel
theorem dL_receives_365 : decode cL_receives 365 = .ok (.iconst 1, 1) := by decide +kernel
theorem dL_receives_366 : decode cL_receives 366 = .ok (.iadd, 1) := by decide +kernel
theorem dL_receives_367 : decode cL_receives 367 = .ok (.iastore, 1) := by decide +kernel
theorem dL_receives_368 : decode cL_receives 368 = .ok (.aload 5, 2) := by decide +kernel
theorem dL_receives_370 : decode cL_receives 370 = .ok (.iconst 1, 1) := by decide +kernel
theorem dL_receives_371 : decode cL_receives 371 = .ok (.iload 14, 2) := by decide +kernel
theorem dL_receives_373 : decode cL_receives 373 = .ok (.iadd, 1) := by decide +kernel
theorem dL_receives_374 : decode cL_receives 374 = .ok (.dup2, 1) := by decide +kernel
theorem dL_receives_375 : decode cL_receives 375 = .ok (.iaload, 1) := by decide +kernel
theorem dL_receives_376 : decode cL_receives 376 = .ok (.iconst 1, 1) := by decide +kernel
theorem dL_receives_377 : decode cL_receives 377 = .ok (.iadd, 1) := by decide +kernel
theorem dL_receives_378 : decode cL_receives 378 = .ok (.iastore, 1) := by decide +kernel
theorem dL_receives_379 : decode cL_receives 379 = .ok (.aload 5, 2) := by decide +kernel
theorem dL_receives_381 : decode cL_receives 381 = .ok (.bipush 6, 2) := by decide +kernel
theorem dL_receives_383 : decode cL_receives 383 = .ok (.dup2, 1) := by decide +kernel
theorem dL_receives_384 : decode cL_receives 384 = .ok (.iaload, 1) := by decide +kernel
theorem dL_receives_385 : decode cL_receives 385 = .ok (.iload 11, 2) := by decide +kernel
theorem dL_receives_387 : decode cL_receives 387 = .ok (.iadd, 1) := by decide +kernel
theorem dL_receives_388 : decode cL_receives 388 = .ok (.iastore, 1) := by decide +kernel
theorem dL_receives_389 : decode cL_receives 389 = .ok (.iload 15, 2) := by decide +kernel
theorem dL_receives_391 : decode cL_receives 391 = .ok (.iconst 1, 1) := by decide +kernel
theorem dL_receives_392 : decode cL_receives 392 = .ok (.iadd, 1) := by decide +kernel
theorem dL_receives_393 : decode cL_receives 393 = .ok (.istore 9, 2) := by decide +kernel
theorem dL_receives_395 : decode cL_receives 395 = .ok (.iload 14, 2) := by decide +kernel
theorem dL_receives_397 : decode cL_receives 397 = .ok (.iconst 3, 1) := by decide +kernel
theorem dL_receives_398 : decode cL_receives 398 = .ok (.if_icmp .ne 20, 3) := by decide +kernel
theorem dL_receives_401 : decode cL_receives 401 = .ok (.iload 9, 2) := by decide +kernel
theorem dL_receives_403 : decode cL_receives 403 = .ok (.aload_n 2, 1) := by decide +kernel
theorem dL_receives_404 : decode cL_receives 404 = .ok (.aload 4, 2) := by decide +kernel
theorem dL_receives_406 : decode cL_receives 406 = .ok (.invokestatic 28, 3) := by decide +kernel
theorem dL_receives_409 : decode cL_receives 409 = .ok (.ifCond .ne 9, 3) := by decide +kernel
theorem dL_receives_412 : decode cL_receives 412 = .ok (.iinc 9 1, 3) := by decide +kernel
theorem dL_receives_415 : decode cL_receives 415 = .ok (.goto (-20), 3) := by decide +kernel
theorem dL_receives_418 : decode cL_receives 418 = .ok (.goto (-375), 3) := by decide +kernel
theorem dL_receives_421 : decode cL_receives 421 = .ok (.iload 7, 2) := by decide +kernel
theorem dL_receives_423 : decode cL_receives 423 = .ok (.ifCond .eq 18, 3) := by decide +kernel
theorem dL_receives_426 : decode cL_receives 426 = .ok (.aload 5, 2) := by decide +kernel
theorem dL_receives_428 : decode cL_receives 428 = .ok (.iconst 0, 1) := by decide +kernel
theorem dL_receives_429 : decode cL_receives 429 = .ok (.iaload, 1) := by decide +kernel
theorem dL_receives_430 : decode cL_receives 430 = .ok (.aload_n 2, 1) := by decide +kernel
theorem dL_receives_431 : decode cL_receives 431 = .ok (.bipush 6, 2) := by decide +kernel
theorem dL_receives_433 : decode cL_receives 433 = .ok (.iaload, 1) := by decide +kernel
theorem dL_receives_434 : decode cL_receives 434 = .ok (.if_icmp .ne 7, 3) := by decide +kernel
theorem dL_receives_437 : decode cL_receives 437 = .ok (.iconst 1, 1) := by decide +kernel
theorem dL_receives_438 : decode cL_receives 438 = .ok (.goto 4, 3) := by decide +kernel
theorem dL_receives_441 : decode cL_receives 441 = .ok (.iconst 0, 1) := by decide +kernel
theorem dL_receives_442 : decode cL_receives 442 = .ok (.ireturn, 1) := by decide +kernel
set_option maxRecDepth 20000 in
theorem ggL_learned_L_level : GoodIn wsL_learned wsL_level := goodIn_r _ [4] (by decide +kernel) (by decide +kernel)
set_option maxRecDepth 20000 in
theorem gL_learned_L_level : GoodIn wsL_learned (va_wsS RL 28 yL_level wsL_level) := goodIn_app (goodIn_of _ (by decide +kernel)) ggL_learned_L_level
theorem dL_learned_0 : decode cL_learned 0 = .ok (.iconst 0, 1) := by decide +kernel
theorem dL_learned_1 : decode cL_learned 1 = .ok (.istore_n 2, 1) := by decide +kernel
theorem dL_learned_2 : decode cL_learned 2 = .ok (.iconst 0, 1) := by decide +kernel
theorem dL_learned_3 : decode cL_learned 3 = .ok (.istore_n 3, 1) := by decide +kernel
theorem dL_learned_4 : decode cL_learned 4 = .ok (.iconst 0, 1) := by decide +kernel
theorem dL_learned_5 : decode cL_learned 5 = .ok (.istore 4, 2) := by decide +kernel
theorem dL_learned_7 : decode cL_learned 7 = .ok (.iload 4, 2) := by decide +kernel
theorem dL_learned_9 : decode cL_learned 9 = .ok (.aload_n 0, 1) := by decide +kernel
theorem dL_learned_10 : decode cL_learned 10 = .ok (.iconst 5, 1) := by decide +kernel
theorem dL_learned_11 : decode cL_learned 11 = .ok (.iaload, 1) := by decide +kernel
theorem dL_learned_12 : decode cL_learned 12 = .ok (.if_icmp .ge 111, 3) := by decide +kernel
theorem dL_learned_15 : decode cL_learned 15 = .ok (.iload 4, 2) := by decide +kernel
theorem dL_learned_17 : decode cL_learned 17 = .ok (.aload_n 0, 1) := by decide +kernel
theorem dL_learned_18 : decode cL_learned 18 = .ok (.aload_n 1, 1) := by decide +kernel
theorem dL_learned_19 : decode cL_learned 19 = .ok (.invokestatic 28, 3) := by decide +kernel
theorem dL_learned_22 : decode cL_learned 22 = .ok (.ifCond .ne 20, 3) := by decide +kernel
theorem dL_learned_25 : decode cL_learned 25 = .ok (.iload 4, 2) := by decide +kernel
theorem dL_learned_27 : decode cL_learned 27 = .ok (.iconst 1, 1) := by decide +kernel
theorem dL_learned_28 : decode cL_learned 28 = .ok (.isub, 1) := by decide +kernel
theorem dL_learned_29 : decode cL_learned 29 = .ok (.aload_n 0, 1) := by decide +kernel
theorem dL_learned_30 : decode cL_learned 30 = .ok (.aload_n 1, 1) := by decide +kernel
theorem dL_learned_31 : decode cL_learned 31 = .ok (.invokestatic 28, 3) := by decide +kernel
theorem dL_learned_34 : decode cL_learned 34 = .ok (.iconst 1, 1) := by decide +kernel
theorem dL_learned_35 : decode cL_learned 35 = .ok (.if_icmp .ne 7, 3) := by decide +kernel
theorem dL_learned_38 : decode cL_learned 38 = .ok (.iconst 1, 1) := by decide +kernel
theorem dL_learned_39 : decode cL_learned 39 = .ok (.goto 4, 3) := by decide +kernel
theorem dL_learned_42 : decode cL_learned 42 = .ok (.iconst 0, 1) := by decide +kernel
theorem dL_learned_43 : decode cL_learned 43 = .ok (.istore 5, 2) := by decide +kernel
theorem dL_learned_45 : decode cL_learned 45 = .ok (.iload_n 2, 1) := by decide +kernel
theorem dL_learned_46 : decode cL_learned 46 = .ok (.iload 5, 2) := by decide +kernel
theorem dL_learned_48 : decode cL_learned 48 = .ok (.ifCond .eq 7, 3) := by decide +kernel
theorem dL_learned_51 : decode cL_learned 51 = .ok (.iconst 1, 1) := by decide +kernel
theorem dL_learned_52 : decode cL_learned 52 = .ok (.goto 4, 3) := by decide +kernel
theorem dL_learned_55 : decode cL_learned 55 = .ok (.iconst 0, 1) := by decide +kernel
theorem dL_learned_56 : decode cL_learned 56 = .ok (.iadd, 1) := by decide +kernel
theorem dL_learned_57 : decode cL_learned 57 = .ok (.istore_n 2, 1) := by decide +kernel
theorem dL_learned_58 : decode cL_learned 58 = .ok (.iload 5, 2) := by decide +kernel
theorem dL_learned_60 : decode cL_learned 60 = .ok (.ifCond .eq 13, 3) := by decide +kernel
/-! ===== END printed ===== -/
