theorem dL_learned_63 : decode cL_learned 63 = .ok (.iload_n 2, 1) := by decide +kernel
theorem dL_learned_64 : decode cL_learned 64 = .ok (.iconst 1, 1) := by decide +kernel
theorem dL_learned_65 : decode cL_learned 65 = .ok (.if_icmp .ne 8, 3) := by decide +kernel
theorem dL_learned_68 : decode cL_learned 68 = .ok (.iload 4, 2) := by decide +kernel
theorem dL_learned_70 : decode cL_learned 70 = .ok (.goto 4, 3) := by decide +kernel
theorem dL_learned_73 : decode cL_learned 73 = .ok (.iload_n 3, 1) := by decide +kernel
theorem dL_learned_74 : decode cL_learned 74 = .ok (.istore_n 3, 1) := by decide +kernel
theorem dL_learned_75 : decode cL_learned 75 = .ok (.iload 5, 2) := by decide +kernel
theorem dL_learned_77 : decode cL_learned 77 = .ok (.ifCond .eq 40, 3) := by decide +kernel
theorem dL_learned_80 : decode cL_learned 80 = .ok (.iload_n 2, 1) := by decide +kernel
theorem dL_learned_81 : decode cL_learned 81 = .ok (.iconst 5, 1) := by decide +kernel
theorem dL_learned_82 : decode cL_learned 82 = .ok (.if_icmp .ne 35, 3) := by decide +kernel
theorem dL_learned_85 : decode cL_learned 85 = .ok (.iload 4, 2) := by decide +kernel
theorem dL_learned_87 : decode cL_learned 87 = .ok (.iload_n 3, 1) := by decide +kernel
theorem dL_learned_88 : decode cL_learned 88 = .ok (.isub, 1) := by decide +kernel
theorem dL_learned_89 : decode cL_learned 89 = .ok (.iconst 4, 1) := by decide +kernel
theorem dL_learned_90 : decode cL_learned 90 = .ok (.iadd, 1) := by decide +kernel
theorem dL_learned_91 : decode cL_learned 91 = .ok (.bipush 8, 2) := by decide +kernel
theorem dL_learned_93 : decode cL_learned 93 = .ok (.idiv, 1) := by decide +kernel
theorem dL_learned_94 : decode cL_learned 94 = .ok (.istore 6, 2) := by decide +kernel
theorem dL_learned_96 : decode cL_learned 96 = .ok (.iload 6, 2) := by decide +kernel
theorem dL_learned_98 : decode cL_learned 98 = .ok (.iconst 4, 1) := by decide +kernel
theorem dL_learned_99 : decode cL_learned 99 = .ok (.if_icmp .lt 10, 3) := by decide +kernel
theorem dL_learned_102 : decode cL_learned 102 = .ok (.iload 6, 2) := by decide +kernel
theorem dL_learned_104 : decode cL_learned 104 = .ok (.bipush 40, 2) := by decide +kernel
theorem dL_learned_106 : decode cL_learned 106 = .ok (.if_icmp .le 8, 3) := by decide +kernel
theorem dL_learned_109 : decode cL_learned 109 = .ok (.bipush (-5), 2) := by decide +kernel
theorem dL_learned_111 : decode cL_learned 111 = .ok (.goto 5, 3) := by decide +kernel
theorem dL_learned_114 : decode cL_learned 114 = .ok (.iload 6, 2) := by decide +kernel
theorem dL_learned_116 : decode cL_learned 116 = .ok (.ireturn, 1) := by decide +kernel
theorem dL_learned_117 : decode cL_learned 117 = .ok (.iinc 4 1, 3) := by decide +kernel
theorem dL_learned_120 : decode cL_learned 120 = .ok (.goto (-113), 3) := by decide +kernel
theorem dL_learned_123 : decode cL_learned 123 = .ok (.bipush (-5), 2) := by decide +kernel
theorem dL_learned_125 : decode cL_learned 125 = .ok (.ireturn, 1) := by decide +kernel
set_option maxRecDepth 20000 in
theorem ggL_isSo_L_low : GoodIn wsL_isSo wsL_low := goodIn_r _ [5, 6] (by decide +kernel) (by decide +kernel)
set_option maxRecDepth 20000 in
theorem gL_isSo_L_low : GoodIn wsL_isSo (va_wsS RL 35 yL_low wsL_low) := goodIn_app (goodIn_of _ (by decide +kernel)) ggL_isSo_L_low
set_option maxRecDepth 20000 in
theorem ggL_isSo_L_receives : GoodIn wsL_isSo wsL_receives := goodIn_r _ [9, 10, 11, 4, 12, 13, 14, 15, 16, 17, 18] (by decide +kernel) (by decide +kernel)
set_option maxRecDepth 20000 in
theorem gL_isSo_L_receives : GoodIn wsL_isSo (va_wsS RL 39 yL_receives wsL_receives) := goodIn_app (goodIn_of _ (by decide +kernel)) ggL_isSo_L_receives
set_option maxRecDepth 20000 in
theorem ggL_isSo_X4_total : GoodIn wsL_isSo wsX4_total := goodIn_r _ [23, 24, 25, 26, 27, 28, 29, 30, 31, 32, 33, 34, 35, 36, 37, 38, 39, 40, 41, 42, 43, 44, 45, 46, 47, 48, 49, 50, 51, 52, 53, 54, 55, 56, 57, 58, 59, 60, 61, 62, 63, 64, 65, 66, 67, 68, 69, 70, 71, 72, 73, 74, 75, 76, 77, 78, 79, 80, 81, 82, 83, 84, 85, 86, 87, 88, 89, 90, 91, 92, 93, 94, 22, 95, 96, 97, 98, 99, 100, 101, 102, 103, 104, 105, 106, 107, 108, 109, 110, 111, 112, 113, 114, 115, 116, 117, 118, 119, 120, 121, 122, 123, 124, 125, 126, 127, 128, 129, 130, 131, 132, 133, 134, 135, 136, 137, 138, 139, 140, 141, 142, 143, 144, 145, 146, 147, 148, 149, 150, 151, 152, 153, 154, 155, 156, 157, 158, 159, 160, 161, 162, 163, 164, 165, 166, 167, 168, 169, 170, 171, 172, 173, 174, 175, 176, 199, 200, 201, 202, 203, 204, 205, 206, 207, 208, 209, 210, 211, 212, 213, 214, 215, 216, 217, 218, 219, 220, 221] (by decide +kernel) (by decide +kernel)
set_option maxRecDepth 20000 in
theorem gL_isSo_X4_total : GoodIn wsL_isSo (wsV RL 43 RX4 yX4_total wsX4_total) := goodIn_app (goodIn_of _ (by decide +kernel)) ggL_isSo_X4_total
set_option maxRecDepth 20000 in
theorem ggL_isSo_L_level : GoodIn wsL_isSo wsL_level := goodIn_r _ [12] (by decide +kernel) (by decide +kernel)
set_option maxRecDepth 20000 in
theorem gL_isSo_L_level : GoodIn wsL_isSo (va_wsS RL 28 yL_level wsL_level) := goodIn_app (goodIn_of _ (by decide +kernel)) ggL_isSo_L_level
set_option maxRecDepth 20000 in
theorem ggL_isSo_L_learned : GoodIn wsL_isSo wsL_learned := goodIn_r _ [179, 10, 11, 4, 12] (by decide +kernel) (by decide +kernel)
set_option maxRecDepth 20000 in
theorem gL_isSo_L_learned : GoodIn wsL_isSo (va_wsS RL 49 yL_learned wsL_learned) := goodIn_app (goodIn_of _ (by decide +kernel)) ggL_isSo_L_learned
set_option maxRecDepth 20000 in
theorem ggL_isSo_X4_received : GoodIn wsL_isSo wsX4_received := goodIn_r _ [183, 96, 24, 27, 28, 29, 30, 31, 32, 97, 98, 99, 100, 101, 102, 103, 104, 73, 74, 75, 76, 77, 78, 79, 52, 37, 47, 48, 49, 50, 51, 53, 54, 55, 56, 57, 58, 59, 105, 34, 35, 36, 106, 107, 108, 109, 110, 111, 112, 113, 114, 115, 116, 117, 118, 119, 120, 121, 122, 123, 124, 125, 126, 127, 128, 129, 22, 130, 131, 132, 133, 134, 135, 136, 137, 138, 139, 140, 141, 142, 184, 152, 153, 154, 199, 200, 201, 202, 203, 204, 205, 206, 207, 208, 218, 219, 220, 221] (by decide +kernel) (by decide +kernel)
set_option maxRecDepth 20000 in
theorem gL_isSo_X4_received : GoodIn wsL_isSo (wsV RL 53 RX4 yX4_received wsX4_received) := goodIn_app (goodIn_of _ (by decide +kernel)) ggL_isSo_X4_received
set_option maxRecDepth 20000 in
theorem ggL_isSo_X4_level : GoodIn wsL_isSo wsX4_level := goodIn_r _ [188, 24, 189, 116, 117, 30, 118, 37, 51, 199, 200, 201, 202, 203, 204, 205, 206, 207, 208] (by decide +kernel) (by decide +kernel)
set_option maxRecDepth 20000 in
theorem gL_isSo_X4_level : GoodIn wsL_isSo (wsV RL 56 RX4 yX4_level wsX4_level) := goodIn_app (goodIn_of _ (by decide +kernel)) ggL_isSo_X4_level
set_option maxRecDepth 20000 in
theorem ggL_isSo_X4_sent : GoodIn wsL_isSo wsX4_sent := goodIn_r _ [193, 24, 194, 169, 170, 30, 171, 42, 172, 199, 200, 201, 202, 203, 204, 205, 206, 207, 208] (by decide +kernel) (by decide +kernel)
set_option maxRecDepth 20000 in
theorem gL_isSo_X4_sent : GoodIn wsL_isSo (wsV RL 58 RX4 yX4_sent wsX4_sent) := goodIn_app (goodIn_of _ (by decide +kernel)) ggL_isSo_X4_sent
set_option maxRecDepth 20000 in
theorem ggL_isSo_X4_ifLength : GoodIn wsL_isSo wsX4_ifLength := goodIn_r _ [198, 96, 24, 97, 98, 99, 100, 101, 102, 103, 104, 73, 74, 30, 75, 76, 77, 78, 79, 52, 37, 47, 48, 49, 50, 51, 53, 54, 55, 56, 57, 58, 59, 105, 34, 35, 36, 106, 107, 108, 109, 110, 111, 112, 113, 114, 115, 116, 117, 118, 119, 120, 121, 122, 28, 29, 31, 32, 123, 124, 125, 126, 127, 128, 129, 22, 130, 131, 132, 133, 134, 135, 136, 137, 138, 139, 140, 141, 142, 143, 144, 145, 146, 147, 148, 149, 150, 151, 152, 153, 154, 159, 160, 161, 162, 163, 164, 165, 166, 167, 39, 40, 41, 42, 168, 169, 170, 171, 172, 173, 174, 175, 176, 199, 200, 201, 202, 203, 218, 219, 220, 221, 204, 205, 206, 207, 208] (by decide +kernel) (by decide +kernel)
set_option maxRecDepth 20000 in
theorem gL_isSo_X4_ifLength : GoodIn wsL_isSo (wsV RL 61 RX4 yX4_ifLength wsX4_ifLength) := goodIn_app (goodIn_of _ (by decide +kernel)) ggL_isSo_X4_ifLength
theorem dL_isSo_0 : decode cL_isSo 0 = .ok (.bipush 7, 2) := by decide +kernel
theorem dL_isSo_2 : decode cL_isSo 2 = .ok (.newarray .int, 2) := by decide +kernel
theorem dL_isSo_4 : decode cL_isSo 4 = .ok (.astore 5, 2) := by decide +kernel
theorem dL_isSo_6 : decode cL_isSo 6 = .ok (.iconst 5, 1) := by decide +kernel
theorem dL_isSo_7 : decode cL_isSo 7 = .ok (.newarray .int, 2) := by decide +kernel
theorem dL_isSo_9 : decode cL_isSo 9 = .ok (.astore 6, 2) := by decide +kernel
theorem dL_isSo_11 : decode cL_isSo 11 = .ok (.iload_n 1, 1) := by decide +kernel
theorem dL_isSo_12 : decode cL_isSo 12 = .ok (.iconst 4, 1) := by decide +kernel
theorem dL_isSo_13 : decode cL_isSo 13 = .ok (.invokestatic 35, 3) := by decide +kernel
theorem dL_isSo_16 : decode cL_isSo 16 = .ok (.ifCond .le 18, 3) := by decide +kernel
theorem dL_isSo_19 : decode cL_isSo 19 = .ok (.iload_n 1, 1) := by decide +kernel
theorem dL_isSo_20 : decode cL_isSo 20 = .ok (.iconst 2, 1) := by decide +kernel
theorem dL_isSo_21 : decode cL_isSo 21 = .ok (.ishr, 1) := by decide +kernel
theorem dL_isSo_22 : decode cL_isSo 22 = .ok (.aload_n 2, 1) := by decide +kernel
theorem dL_isSo_23 : decode cL_isSo 23 = .ok (.bipush 6, 2) := by decide +kernel
theorem dL_isSo_25 : decode cL_isSo 25 = .ok (.iaload, 1) := by decide +kernel
theorem dL_isSo_26 : decode cL_isSo 26 = .ok (.iconst 1, 1) := by decide +kernel
theorem dL_isSo_27 : decode cL_isSo 27 = .ok (.iadd, 1) := by decide +kernel
theorem dL_isSo_28 : decode cL_isSo 28 = .ok (.invokestatic 35, 3) := by decide +kernel
theorem dL_isSo_31 : decode cL_isSo 31 = .ok (.goto 5, 3) := by decide +kernel
theorem dL_isSo_34 : decode cL_isSo 34 = .ok (.bipush 99, 2) := by decide +kernel
theorem dL_isSo_36 : decode cL_isSo 36 = .ok (.istore 7, 2) := by decide +kernel
theorem dL_isSo_38 : decode cL_isSo 38 = .ok (.aload_n 2, 1) := by decide +kernel
theorem dL_isSo_39 : decode cL_isSo 39 = .ok (.iconst 1, 1) := by decide +kernel
theorem dL_isSo_40 : decode cL_isSo 40 = .ok (.iaload, 1) := by decide +kernel
theorem dL_isSo_41 : decode cL_isSo 41 = .ok (.iload 7, 2) := by decide +kernel
theorem dL_isSo_43 : decode cL_isSo 43 = .ok (.aload_n 2, 1) := by decide +kernel
theorem dL_isSo_44 : decode cL_isSo 44 = .ok (.aload_n 3, 1) := by decide +kernel
theorem dL_isSo_45 : decode cL_isSo 45 = .ok (.aload 4, 2) := by decide +kernel
theorem dL_isSo_47 : decode cL_isSo 47 = .ok (.aload 5, 2) := by decide +kernel
theorem dL_isSo_49 : decode cL_isSo 49 = .ok (.aload 6, 2) := by decide +kernel
theorem dL_isSo_51 : decode cL_isSo 51 = .ok (.invokestatic 39, 3) := by decide +kernel
theorem dL_isSo_54 : decode cL_isSo 54 = .ok (.istore 8, 2) := by decide +kernel
theorem dL_isSo_56 : decode cL_isSo 56 = .ok (.iconst 1, 1) := by decide +kernel
theorem dL_isSo_57 : decode cL_isSo 57 = .ok (.istore 9, 2) := by decide +kernel
theorem dL_isSo_59 : decode cL_isSo 59 = .ok (.iconst 0, 1) := by decide +kernel
theorem dL_isSo_60 : decode cL_isSo 60 = .ok (.istore 10, 2) := by decide +kernel
theorem dL_isSo_62 : decode cL_isSo 62 = .ok (.iload 10, 2) := by decide +kernel
theorem dL_isSo_64 : decode cL_isSo 64 = .ok (.bipush 7, 2) := by decide +kernel
theorem dL_isSo_66 : decode cL_isSo 66 = .ok (.if_icmp .ge 34, 3) := by decide +kernel
theorem dL_isSo_69 : decode cL_isSo 69 = .ok (.iload 9, 2) := by decide +kernel
theorem dL_isSo_71 : decode cL_isSo 71 = .ok (.ifCond .eq 20, 3) := by decide +kernel
theorem dL_isSo_74 : decode cL_isSo 74 = .ok (.aload_n 0, 1) := by decide +kernel
theorem dL_isSo_75 : decode cL_isSo 75 = .ok (.iload 10, 2) := by decide +kernel
theorem dL_isSo_77 : decode cL_isSo 77 = .ok (.invokevirtual 43, 3) := by decide +kernel
theorem dL_isSo_80 : decode cL_isSo 80 = .ok (.aload_n 2, 1) := by decide +kernel
theorem dL_isSo_81 : decode cL_isSo 81 = .ok (.iload 10, 2) := by decide +kernel
theorem dL_isSo_83 : decode cL_isSo 83 = .ok (.iaload, 1) := by decide +kernel
theorem dL_isSo_84 : decode cL_isSo 84 = .ok (.if_icmp .ne 7, 3) := by decide +kernel
theorem dL_isSo_87 : decode cL_isSo 87 = .ok (.iconst 1, 1) := by decide +kernel
theorem dL_isSo_88 : decode cL_isSo 88 = .ok (.goto 4, 3) := by decide +kernel
theorem dL_isSo_91 : decode cL_isSo 91 = .ok (.iconst 0, 1) := by decide +kernel
theorem dL_isSo_92 : decode cL_isSo 92 = .ok (.istore 9, 2) := by decide +kernel
theorem dL_isSo_94 : decode cL_isSo 94 = .ok (.iinc 10 1, 3) := by decide +kernel
theorem dL_isSo_97 : decode cL_isSo 97 = .ok (.goto (-35), 3) := by decide +kernel
theorem dL_isSo_100 : decode cL_isSo 100 = .ok (.iconst 0, 1) := by decide +kernel
theorem dL_isSo_101 : decode cL_isSo 101 = .ok (.istore 10, 2) := by decide +kernel
theorem dL_isSo_103 : decode cL_isSo 103 = .ok (.iconst 0, 1) := by decide +kernel
theorem dL_isSo_104 : decode cL_isSo 104 = .ok (.istore 11, 2) := by decide +kernel
theorem dL_isSo_106 : decode cL_isSo 106 = .ok (.iconst 0, 1) := by decide +kernel
theorem dL_isSo_107 : decode cL_isSo 107 = .ok (.istore 12, 2) := by decide +kernel
theorem dL_isSo_109 : decode cL_isSo 109 = .ok (.iload 12, 2) := by decide +kernel
theorem dL_isSo_111 : decode cL_isSo 111 = .ok (.aload_n 2, 1) := by decide +kernel
theorem dL_isSo_112 : decode cL_isSo 112 = .ok (.iconst 5, 1) := by decide +kernel
theorem dL_isSo_113 : decode cL_isSo 113 = .ok (.iaload, 1) := by decide +kernel
theorem dL_isSo_114 : decode cL_isSo 114 = .ok (.if_icmp .ge 59, 3) := by decide +kernel
theorem dL_isSo_117 : decode cL_isSo 117 = .ok (.iload 11, 2) := by decide +kernel
theorem dL_isSo_119 : decode cL_isSo 119 = .ok (.iconst 1, 1) := by decide +kernel
theorem dL_isSo_120 : decode cL_isSo 120 = .ok (.iload 12, 2) := by decide +kernel
theorem dL_isSo_122 : decode cL_isSo 122 = .ok (.aload_n 2, 1) := by decide +kernel
theorem dL_isSo_123 : decode cL_isSo 123 = .ok (.aload 4, 2) := by decide +kernel
theorem dL_isSo_125 : decode cL_isSo 125 = .ok (.invokestatic 28, 3) := by decide +kernel
theorem dL_isSo_128 : decode cL_isSo 128 = .ok (.isub, 1) := by decide +kernel
theorem dL_isSo_129 : decode cL_isSo 129 = .ok (.iadd, 1) := by decide +kernel
theorem dL_isSo_130 : decode cL_isSo 130 = .ok (.istore 11, 2) := by decide +kernel
theorem dL_isSo_132 : decode cL_isSo 132 = .ok (.iload 10, 2) := by decide +kernel
theorem dL_isSo_134 : decode cL_isSo 134 = .ok (.iload 12, 2) := by decide +kernel
theorem dL_isSo_136 : decode cL_isSo 136 = .ok (.aload_n 2, 1) := by decide +kernel
theorem dL_isSo_137 : decode cL_isSo 137 = .ok (.aload 4, 2) := by decide +kernel
theorem dL_isSo_139 : decode cL_isSo 139 = .ok (.invokestatic 28, 3) := by decide +kernel
theorem dL_isSo_142 : decode cL_isSo 142 = .ok (.ifCond .ne 21, 3) := by decide +kernel
theorem dL_isSo_145 : decode cL_isSo 145 = .ok (.iload 12, 2) := by decide +kernel
theorem dL_isSo_147 : decode cL_isSo 147 = .ok (.iconst 1, 1) := by decide +kernel
theorem dL_isSo_148 : decode cL_isSo 148 = .ok (.isub, 1) := by decide +kernel
theorem dL_isSo_149 : decode cL_isSo 149 = .ok (.aload_n 2, 1) := by decide +kernel
theorem dL_isSo_150 : decode cL_isSo 150 = .ok (.aload 4, 2) := by decide +kernel
theorem dL_isSo_152 : decode cL_isSo 152 = .ok (.invokestatic 28, 3) := by decide +kernel
theorem dL_isSo_155 : decode cL_isSo 155 = .ok (.iconst 1, 1) := by decide +kernel
theorem dL_isSo_156 : decode cL_isSo 156 = .ok (.if_icmp .ne 7, 3) := by decide +kernel
theorem dL_isSo_159 : decode cL_isSo 159 = .ok (.iconst 1, 1) := by decide +kernel
theorem dL_isSo_160 : decode cL_isSo 160 = .ok (.goto 4, 3) := by decide +kernel
theorem dL_isSo_163 : decode cL_isSo 163 = .ok (.iconst 0, 1) := by decide +kernel
theorem dL_isSo_164 : decode cL_isSo 164 = .ok (.iadd, 1) := by decide +kernel
theorem dL_isSo_165 : decode cL_isSo 165 = .ok (.istore 10, 2) := by decide +kernel
theorem dL_isSo_167 : decode cL_isSo 167 = .ok (.iinc 12 1, 3) := by decide +kernel
theorem dL_isSo_170 : decode cL_isSo 170 = .ok (.goto (-61), 3) := by decide +kernel
theorem dL_isSo_173 : decode cL_isSo 173 = .ok (.iload 9, 2) := by decide +kernel
theorem dL_isSo_175 : decode cL_isSo 175 = .ok (.ifCond .eq 155, 3) := by decide +kernel
theorem dL_isSo_178 : decode cL_isSo 178 = .ok (.aload_n 0, 1) := by decide +kernel
theorem dL_isSo_179 : decode cL_isSo 179 = .ok (.bipush 7, 2) := by decide +kernel
theorem dL_isSo_181 : decode cL_isSo 181 = .ok (.invokevirtual 43, 3) := by decide +kernel
theorem dL_isSo_184 : decode cL_isSo 184 = .ok (.aload 5, 2) := by decide +kernel
theorem dL_isSo_186 : decode cL_isSo 186 = .ok (.iconst 0, 1) := by decide +kernel
theorem dL_isSo_187 : decode cL_isSo 187 = .ok (.iaload, 1) := by decide +kernel
theorem dL_isSo_188 : decode cL_isSo 188 = .ok (.if_icmp .ne 142, 3) := by decide +kernel
theorem dL_isSo_191 : decode cL_isSo 191 = .ok (.aload_n 0, 1) := by decide +kernel
theorem dL_isSo_192 : decode cL_isSo 192 = .ok (.bipush 8, 2) := by decide +kernel
theorem dL_isSo_194 : decode cL_isSo 194 = .ok (.invokevirtual 43, 3) := by decide +kernel
theorem dL_isSo_197 : decode cL_isSo 197 = .ok (.aload 5, 2) := by decide +kernel
theorem dL_isSo_199 : decode cL_isSo 199 = .ok (.iconst 1, 1) := by decide +kernel
theorem dL_isSo_200 : decode cL_isSo 200 = .ok (.iaload, 1) := by decide +kernel
theorem dL_isSo_201 : decode cL_isSo 201 = .ok (.if_icmp .ne 129, 3) := by decide +kernel
theorem dL_isSo_204 : decode cL_isSo 204 = .ok (.aload_n 0, 1) := by decide +kernel
theorem dL_isSo_205 : decode cL_isSo 205 = .ok (.bipush 9, 2) := by decide +kernel
theorem dL_isSo_207 : decode cL_isSo 207 = .ok (.invokevirtual 43, 3) := by decide +kernel
theorem dL_isSo_210 : decode cL_isSo 210 = .ok (.aload 5, 2) := by decide +kernel
theorem dL_isSo_212 : decode cL_isSo 212 = .ok (.iconst 2, 1) := by decide +kernel
theorem dL_isSo_213 : decode cL_isSo 213 = .ok (.iaload, 1) := by decide +kernel
theorem dL_isSo_214 : decode cL_isSo 214 = .ok (.if_icmp .ne 116, 3) := by decide +kernel
theorem dL_isSo_217 : decode cL_isSo 217 = .ok (.aload_n 0, 1) := by decide +kernel
theorem dL_isSo_218 : decode cL_isSo 218 = .ok (.bipush 10, 2) := by decide +kernel
theorem dL_isSo_220 : decode cL_isSo 220 = .ok (.invokevirtual 43, 3) := by decide +kernel
theorem dL_isSo_223 : decode cL_isSo 223 = .ok (.aload 5, 2) := by decide +kernel
theorem dL_isSo_225 : decode cL_isSo 225 = .ok (.iconst 3, 1) := by decide +kernel
theorem dL_isSo_226 : decode cL_isSo 226 = .ok (.iaload, 1) := by decide +kernel
theorem dL_isSo_227 : decode cL_isSo 227 = .ok (.if_icmp .ne 103, 3) := by decide +kernel
theorem dL_isSo_230 : decode cL_isSo 230 = .ok (.aload_n 0, 1) := by decide +kernel
theorem dL_isSo_231 : decode cL_isSo 231 = .ok (.bipush 11, 2) := by decide +kernel
theorem dL_isSo_233 : decode cL_isSo 233 = .ok (.invokevirtual 43, 3) := by decide +kernel
theorem dL_isSo_236 : decode cL_isSo 236 = .ok (.aload 5, 2) := by decide +kernel
theorem dL_isSo_238 : decode cL_isSo 238 = .ok (.iconst 4, 1) := by decide +kernel
theorem dL_isSo_239 : decode cL_isSo 239 = .ok (.iaload, 1) := by decide +kernel
theorem dL_isSo_240 : decode cL_isSo 240 = .ok (.if_icmp .ne 90, 3) := by decide +kernel
theorem dL_isSo_243 : decode cL_isSo 243 = .ok (.aload_n 0, 1) := by decide +kernel
theorem dL_isSo_244 : decode cL_isSo 244 = .ok (.bipush 12, 2) := by decide +kernel
theorem dL_isSo_246 : decode cL_isSo 246 = .ok (.invokevirtual 43, 3) := by decide +kernel
theorem dL_isSo_249 : decode cL_isSo 249 = .ok (.aload 5, 2) := by decide +kernel
theorem dL_isSo_251 : decode cL_isSo 251 = .ok (.iconst 5, 1) := by decide +kernel
theorem dL_isSo_252 : decode cL_isSo 252 = .ok (.iaload, 1) := by decide +kernel
theorem dL_isSo_253 : decode cL_isSo 253 = .ok (.if_icmp .ne 77, 3) := by decide +kernel
theorem dL_isSo_256 : decode cL_isSo 256 = .ok (.aload_n 0, 1) := by decide +kernel
theorem dL_isSo_257 : decode cL_isSo 257 = .ok (.bipush 13, 2) := by decide +kernel
theorem dL_isSo_259 : decode cL_isSo 259 = .ok (.invokevirtual 43, 3) := by decide +kernel
theorem dL_isSo_262 : decode cL_isSo 262 = .ok (.aload 5, 2) := by decide +kernel
theorem dL_isSo_264 : decode cL_isSo 264 = .ok (.bipush 6, 2) := by decide +kernel
theorem dL_isSo_266 : decode cL_isSo 266 = .ok (.iaload, 1) := by decide +kernel
theorem dL_isSo_267 : decode cL_isSo 267 = .ok (.if_icmp .ne 63, 3) := by decide +kernel
theorem dL_isSo_270 : decode cL_isSo 270 = .ok (.aload_n 0, 1) := by decide +kernel
theorem dL_isSo_271 : decode cL_isSo 271 = .ok (.bipush 14, 2) := by decide +kernel
theorem dL_isSo_273 : decode cL_isSo 273 = .ok (.invokevirtual 43, 3) := by decide +kernel
theorem dL_isSo_276 : decode cL_isSo 276 = .ok (.iload 8, 2) := by decide +kernel
theorem dL_isSo_278 : decode cL_isSo 278 = .ok (.ifCond .eq 7, 3) := by decide +kernel
theorem dL_isSo_281 : decode cL_isSo 281 = .ok (.iconst 1, 1) := by decide +kernel
theorem dL_isSo_282 : decode cL_isSo 282 = .ok (.goto 4, 3) := by decide +kernel
theorem dL_isSo_285 : decode cL_isSo 285 = .ok (.iconst 0, 1) := by decide +kernel
theorem dL_isSo_286 : decode cL_isSo 286 = .ok (.if_icmp .ne 44, 3) := by decide +kernel
theorem dL_isSo_289 : decode cL_isSo 289 = .ok (.aload_n 0, 1) := by decide +kernel
theorem dL_isSo_290 : decode cL_isSo 290 = .ok (.bipush 15, 2) := by decide +kernel
theorem dL_isSo_292 : decode cL_isSo 292 = .ok (.invokevirtual 43, 3) := by decide +kernel
theorem dL_isSo_295 : decode cL_isSo 295 = .ok (.iload 10, 2) := by decide +kernel
theorem dL_isSo_297 : decode cL_isSo 297 = .ok (.if_icmp .ne 33, 3) := by decide +kernel
theorem dL_isSo_300 : decode cL_isSo 300 = .ok (.aload_n 0, 1) := by decide +kernel
theorem dL_isSo_301 : decode cL_isSo 301 = .ok (.bipush 16, 2) := by decide +kernel
theorem dL_isSo_303 : decode cL_isSo 303 = .ok (.invokevirtual 43, 3) := by decide +kernel
theorem dL_isSo_306 : decode cL_isSo 306 = .ok (.iload 11, 2) := by decide +kernel
theorem dL_isSo_308 : decode cL_isSo 308 = .ok (.if_icmp .ne 22, 3) := by decide +kernel
theorem dL_isSo_311 : decode cL_isSo 311 = .ok (.aload_n 0, 1) := by decide +kernel
theorem dL_isSo_312 : decode cL_isSo 312 = .ok (.bipush 17, 2) := by decide +kernel
theorem dL_isSo_314 : decode cL_isSo 314 = .ok (.invokevirtual 43, 3) := by decide +kernel
theorem dL_isSo_317 : decode cL_isSo 317 = .ok (.aload_n 2, 1) := by decide +kernel
theorem dL_isSo_318 : decode cL_isSo 318 = .ok (.aload 4, 2) := by decide +kernel
theorem dL_isSo_320 : decode cL_isSo 320 = .ok (.invokestatic 49, 3) := by decide +kernel
theorem dL_isSo_323 : decode cL_isSo 323 = .ok (.if_icmp .ne 7, 3) := by decide +kernel
theorem dL_isSo_326 : decode cL_isSo 326 = .ok (.iconst 1, 1) := by decide +kernel
theorem dL_isSo_327 : decode cL_isSo 327 = .ok (.goto 4, 3) := by decide +kernel
theorem dL_isSo_330 : decode cL_isSo 330 = .ok (.iconst 0, 1) := by decide +kernel
theorem dL_isSo_331 : decode cL_isSo 331 = .ok (.istore 9, 2) := by decide +kernel
theorem dL_isSo_333 : decode cL_isSo 333 = .ok (.iconst 0, 1) := by decide +kernel
theorem dL_isSo_334 : decode cL_isSo 334 = .ok (.istore 12, 2) := by decide +kernel
theorem dL_isSo_336 : decode cL_isSo 336 = .ok (.iload 12, 2) := by decide +kernel
theorem dL_isSo_338 : decode cL_isSo 338 = .ok (.iconst 5, 1) := by decide +kernel
theorem dL_isSo_339 : decode cL_isSo 339 = .ok (.if_icmp .ge 51, 3) := by decide +kernel
theorem dL_isSo_342 : decode cL_isSo 342 = .ok (.iload 9, 2) := by decide +kernel
theorem dL_isSo_344 : decode cL_isSo 344 = .ok (.ifCond .eq 37, 3) := by decide +kernel
theorem dL_isSo_347 : decode cL_isSo 347 = .ok (.aload_n 0, 1) := by decide +kernel
theorem dL_isSo_348 : decode cL_isSo 348 = .ok (.iload 7, 2) := by decide +kernel
theorem dL_isSo_350 : decode cL_isSo 350 = .ok (.iload 12, 2) := by decide +kernel
theorem dL_isSo_352 : decode cL_isSo 352 = .ok (.invokevirtual 53, 3) := by decide +kernel
theorem dL_isSo_355 : decode cL_isSo 355 = .ok (.iload 7, 2) := by decide +kernel
theorem dL_isSo_357 : decode cL_isSo 357 = .ok (.aload 5, 2) := by decide +kernel
theorem dL_isSo_359 : decode cL_isSo 359 = .ok (.iconst 0, 1) := by decide +kernel
theorem dL_isSo_360 : decode cL_isSo 360 = .ok (.iaload, 1) := by decide +kernel
theorem dL_isSo_361 : decode cL_isSo 361 = .ok (.if_icmp .ge 11, 3) := by decide +kernel
theorem dL_isSo_364 : decode cL_isSo 364 = .ok (.aload 6, 2) := by decide +kernel
theorem dL_isSo_366 : decode cL_isSo 366 = .ok (.iload 12, 2) := by decide +kernel
theorem dL_isSo_368 : decode cL_isSo 368 = .ok (.iaload, 1) := by decide +kernel
theorem dL_isSo_369 : decode cL_isSo 369 = .ok (.goto 5, 3) := by decide +kernel
theorem dL_isSo_372 : decode cL_isSo 372 = .ok (.bipush (-5), 2) := by decide +kernel
theorem dL_isSo_374 : decode cL_isSo 374 = .ok (.if_icmp .ne 7, 3) := by decide +kernel
theorem dL_isSo_377 : decode cL_isSo 377 = .ok (.iconst 1, 1) := by decide +kernel
theorem dL_isSo_378 : decode cL_isSo 378 = .ok (.goto 4, 3) := by decide +kernel
theorem dL_isSo_381 : decode cL_isSo 381 = .ok (.iconst 0, 1) := by decide +kernel
theorem dL_isSo_382 : decode cL_isSo 382 = .ok (.istore 9, 2) := by decide +kernel
theorem dL_isSo_384 : decode cL_isSo 384 = .ok (.iinc 12 1, 3) := by decide +kernel
theorem dL_isSo_387 : decode cL_isSo 387 = .ok (.goto (-51), 3) := by decide +kernel
theorem dL_isSo_390 : decode cL_isSo 390 = .ok (.iload_n 1, 1) := by decide +kernel
theorem dL_isSo_391 : decode cL_isSo 391 = .ok (.bipush 7, 2) := by decide +kernel
theorem dL_isSo_393 : decode cL_isSo 393 = .ok (.ishr, 1) := by decide +kernel
theorem dL_isSo_394 : decode cL_isSo 394 = .ok (.sipush 1510, 3) := by decide +kernel
theorem dL_isSo_397 : decode cL_isSo 397 = .ok (.invokestatic 35, 3) := by decide +kernel
theorem dL_isSo_400 : decode cL_isSo 400 = .ok (.istore 12, 2) := by decide +kernel
theorem dL_isSo_402 : decode cL_isSo 402 = .ok (.iload_n 1, 1) := by decide +kernel
theorem dL_isSo_403 : decode cL_isSo 403 = .ok (.bipush 18, 2) := by decide +kernel
theorem dL_isSo_405 : decode cL_isSo 405 = .ok (.ishr, 1) := by decide +kernel
theorem dL_isSo_406 : decode cL_isSo 406 = .ok (.aload_n 2, 1) := by decide +kernel
theorem dL_isSo_407 : decode cL_isSo 407 = .ok (.bipush 6, 2) := by decide +kernel
theorem dL_isSo_409 : decode cL_isSo 409 = .ok (.iaload, 1) := by decide +kernel
theorem dL_isSo_410 : decode cL_isSo 410 = .ok (.iconst 1, 1) := by decide +kernel
theorem dL_isSo_411 : decode cL_isSo 411 = .ok (.iadd, 1) := by decide +kernel
theorem dL_isSo_412 : decode cL_isSo 412 = .ok (.invokestatic 35, 3) := by decide +kernel
theorem dL_isSo_415 : decode cL_isSo 415 = .ok (.istore 13, 2) := by decide +kernel
theorem dL_isSo_417 : decode cL_isSo 417 = .ok (.iload 9, 2) := by decide +kernel
theorem dL_isSo_419 : decode cL_isSo 419 = .ok (.ifCond .eq 51, 3) := by decide +kernel
theorem dL_isSo_422 : decode cL_isSo 422 = .ok (.aload_n 0, 1) := by decide +kernel
theorem dL_isSo_423 : decode cL_isSo 423 = .ok (.iload 12, 2) := by decide +kernel
theorem dL_isSo_425 : decode cL_isSo 425 = .ok (.invokevirtual 56, 3) := by decide +kernel
theorem dL_isSo_428 : decode cL_isSo 428 = .ok (.iload 12, 2) := by decide +kernel
theorem dL_isSo_430 : decode cL_isSo 430 = .ok (.aload_n 2, 1) := by decide +kernel
theorem dL_isSo_431 : decode cL_isSo 431 = .ok (.aload 4, 2) := by decide +kernel
theorem dL_isSo_433 : decode cL_isSo 433 = .ok (.invokestatic 28, 3) := by decide +kernel
theorem dL_isSo_436 : decode cL_isSo 436 = .ok (.if_icmp .ne 34, 3) := by decide +kernel
theorem dL_isSo_439 : decode cL_isSo 439 = .ok (.aload_n 0, 1) := by decide +kernel
theorem dL_isSo_440 : decode cL_isSo 440 = .ok (.iload 13, 2) := by decide +kernel
theorem dL_isSo_442 : decode cL_isSo 442 = .ok (.invokevirtual 58, 3) := by decide +kernel
theorem dL_isSo_445 : decode cL_isSo 445 = .ok (.iload 13, 2) := by decide +kernel
theorem dL_isSo_447 : decode cL_isSo 447 = .ok (.aload_n 2, 1) := by decide +kernel
theorem dL_isSo_448 : decode cL_isSo 448 = .ok (.bipush 6, 2) := by decide +kernel
theorem dL_isSo_450 : decode cL_isSo 450 = .ok (.iaload, 1) := by decide +kernel
theorem dL_isSo_451 : decode cL_isSo 451 = .ok (.if_icmp .ge 10, 3) := by decide +kernel
theorem dL_isSo_454 : decode cL_isSo 454 = .ok (.aload_n 3, 1) := by decide +kernel
theorem dL_isSo_455 : decode cL_isSo 455 = .ok (.iload 13, 2) := by decide +kernel
theorem dL_isSo_457 : decode cL_isSo 457 = .ok (.iaload, 1) := by decide +kernel
theorem dL_isSo_458 : decode cL_isSo 458 = .ok (.goto 5, 3) := by decide +kernel
theorem dL_isSo_461 : decode cL_isSo 461 = .ok (.bipush (-5), 2) := by decide +kernel
theorem dL_isSo_463 : decode cL_isSo 463 = .ok (.if_icmp .ne 7, 3) := by decide +kernel
theorem dL_isSo_466 : decode cL_isSo 466 = .ok (.iconst 1, 1) := by decide +kernel
theorem dL_isSo_467 : decode cL_isSo 467 = .ok (.goto 4, 3) := by decide +kernel
theorem dL_isSo_470 : decode cL_isSo 470 = .ok (.iconst 0, 1) := by decide +kernel
theorem dL_isSo_471 : decode cL_isSo 471 = .ok (.istore 9, 2) := by decide +kernel
theorem dL_isSo_473 : decode cL_isSo 473 = .ok (.iconst 4, 1) := by decide +kernel
theorem dL_isSo_474 : decode cL_isSo 474 = .ok (.iload_n 1, 1) := by decide +kernel
theorem dL_isSo_475 : decode cL_isSo 475 = .ok (.bipush 12, 2) := by decide +kernel
theorem dL_isSo_477 : decode cL_isSo 477 = .ok (.ishr, 1) := by decide +kernel
theorem dL_isSo_478 : decode cL_isSo 478 = .ok (.bipush 37, 2) := by decide +kernel
theorem dL_isSo_480 : decode cL_isSo 480 = .ok (.invokestatic 35, 3) := by decide +kernel
theorem dL_isSo_483 : decode cL_isSo 483 = .ok (.iadd, 1) := by decide +kernel
theorem dL_isSo_484 : decode cL_isSo 484 = .ok (.istore 14, 2) := by decide +kernel
theorem dL_isSo_486 : decode cL_isSo 486 = .ok (.iload 14, 2) := by decide +kernel
theorem dL_isSo_488 : decode cL_isSo 488 = .ok (.bipush 99, 2) := by decide +kernel
theorem dL_isSo_490 : decode cL_isSo 490 = .ok (.aload_n 2, 1) := by decide +kernel
theorem dL_isSo_491 : decode cL_isSo 491 = .ok (.aload_n 3, 1) := by decide +kernel
theorem dL_isSo_492 : decode cL_isSo 492 = .ok (.aload 4, 2) := by decide +kernel
theorem dL_isSo_494 : decode cL_isSo 494 = .ok (.aload 5, 2) := by decide +kernel
theorem dL_isSo_496 : decode cL_isSo 496 = .ok (.aload 6, 2) := by decide +kernel
theorem dL_isSo_498 : decode cL_isSo 498 = .ok (.invokestatic 39, 3) := by decide +kernel
theorem dL_isSo_501 : decode cL_isSo 501 = .ok (.istore 8, 2) := by decide +kernel
theorem dL_isSo_503 : decode cL_isSo 503 = .ok (.iload 9, 2) := by decide +kernel
theorem dL_isSo_505 : decode cL_isSo 505 = .ok (.ifCond .eq 70, 3) := by decide +kernel
theorem dL_isSo_508 : decode cL_isSo 508 = .ok (.aload_n 0, 1) := by decide +kernel
theorem dL_isSo_509 : decode cL_isSo 509 = .ok (.iload 14, 2) := by decide +kernel
theorem dL_isSo_511 : decode cL_isSo 511 = .ok (.iconst 0, 1) := by decide +kernel
theorem dL_isSo_512 : decode cL_isSo 512 = .ok (.invokevirtual 61, 3) := by decide +kernel
theorem dL_isSo_515 : decode cL_isSo 515 = .ok (.aload 5, 2) := by decide +kernel
theorem dL_isSo_517 : decode cL_isSo 517 = .ok (.iconst 0, 1) := by decide +kernel
theorem dL_isSo_518 : decode cL_isSo 518 = .ok (.iaload, 1) := by decide +kernel
theorem dL_isSo_519 : decode cL_isSo 519 = .ok (.if_icmp .ne 56, 3) := by decide +kernel
theorem dL_isSo_522 : decode cL_isSo 522 = .ok (.aload_n 0, 1) := by decide +kernel
theorem dL_isSo_523 : decode cL_isSo 523 = .ok (.iload 14, 2) := by decide +kernel
theorem dL_isSo_525 : decode cL_isSo 525 = .ok (.iconst 1, 1) := by decide +kernel
theorem dL_isSo_526 : decode cL_isSo 526 = .ok (.invokevirtual 61, 3) := by decide +kernel
theorem dL_isSo_529 : decode cL_isSo 529 = .ok (.aload 5, 2) := by decide +kernel
theorem dL_isSo_531 : decode cL_isSo 531 = .ok (.iconst 1, 1) := by decide +kernel
theorem dL_isSo_532 : decode cL_isSo 532 = .ok (.iaload, 1) := by decide +kernel
theorem dL_isSo_533 : decode cL_isSo 533 = .ok (.if_icmp .ne 42, 3) := by decide +kernel
theorem dL_isSo_536 : decode cL_isSo 536 = .ok (.aload_n 0, 1) := by decide +kernel
theorem dL_isSo_537 : decode cL_isSo 537 = .ok (.iload 14, 2) := by decide +kernel
theorem dL_isSo_539 : decode cL_isSo 539 = .ok (.iconst 2, 1) := by decide +kernel
theorem dL_isSo_540 : decode cL_isSo 540 = .ok (.invokevirtual 61, 3) := by decide +kernel
theorem dL_isSo_543 : decode cL_isSo 543 = .ok (.aload 5, 2) := by decide +kernel
theorem dL_isSo_545 : decode cL_isSo 545 = .ok (.bipush 6, 2) := by decide +kernel
theorem dL_isSo_547 : decode cL_isSo 547 = .ok (.iaload, 1) := by decide +kernel
theorem dL_isSo_548 : decode cL_isSo 548 = .ok (.if_icmp .ne 27, 3) := by decide +kernel
theorem dL_isSo_551 : decode cL_isSo 551 = .ok (.aload_n 0, 1) := by decide +kernel
theorem dL_isSo_552 : decode cL_isSo 552 = .ok (.iload 14, 2) := by decide +kernel
theorem dL_isSo_554 : decode cL_isSo 554 = .ok (.iconst 3, 1) := by decide +kernel
theorem dL_isSo_555 : decode cL_isSo 555 = .ok (.invokevirtual 61, 3) := by decide +kernel
theorem dL_isSo_558 : decode cL_isSo 558 = .ok (.iload 8, 2) := by decide +kernel
theorem dL_isSo_560 : decode cL_isSo 560 = .ok (.ifCond .eq 7, 3) := by decide +kernel
theorem dL_isSo_563 : decode cL_isSo 563 = .ok (.iconst 1, 1) := by decide +kernel
theorem dL_isSo_564 : decode cL_isSo 564 = .ok (.goto 4, 3) := by decide +kernel
theorem dL_isSo_567 : decode cL_isSo 567 = .ok (.iconst 0, 1) := by decide +kernel
theorem dL_isSo_568 : decode cL_isSo 568 = .ok (.if_icmp .ne 7, 3) := by decide +kernel
theorem dL_isSo_571 : decode cL_isSo 571 = .ok (.iconst 1, 1) := by decide +kernel
theorem dL_isSo_572 : decode cL_isSo 572 = .ok (.goto 4, 3) := by decide +kernel
theorem dL_isSo_575 : decode cL_isSo 575 = .ok (.iconst 0, 1) := by decide +kernel
theorem dL_isSo_576 : decode cL_isSo 576 = .ok (.ireturn, 1) := by decide +kernel
set_option maxRecDepth 20000 in
theorem ggL_call_X4_send : GoodIn wsL_call wsX4_send := goodIn_r _ [5, 6, 7, 8, 9, 4, 10, 11, 12, 13, 14, 15, 16, 17, 18, 19, 20, 21, 22, 23, 24, 25, 26, 27, 28, 29, 30, 31, 32, 33, 34, 35, 36, 37, 38, 39, 40, 41, 42, 43, 44, 45, 46, 47, 48, 49, 50, 51, 52, 53, 54, 55, 56, 57, 58, 59, 60, 61, 62, 63, 64, 65, 66, 67, 68, 69, 70, 71, 72, 73, 74, 75, 76, 77, 78, 79, 164, 165, 166, 167, 168, 169, 170, 171, 172, 173, 174, 175, 176, 177] (by decide +kernel) (by decide +kernel)
set_option maxRecDepth 20000 in
theorem gL_call_X4_send : GoodIn wsL_call (wsV RL 64 RX4 yX4_send wsX4_send) := goodIn_app (goodIn_of _ (by decide +kernel)) ggL_call_X4_send
set_option maxRecDepth 20000 in
theorem ggL_call_X4_pause : GoodIn wsL_call wsX4_pause := goodIn_r _ [83, 84, 85, 86, 4, 87, 6, 7, 21, 22, 23, 14, 24, 25, 26, 27, 28, 29, 30, 31, 32, 33, 34, 35, 36, 37, 38, 39, 40, 41, 42, 43, 44, 45, 46, 16, 47, 88, 89, 90, 91, 53, 67, 68, 69, 70, 71, 72, 73, 74, 75, 76, 77, 78, 79, 164, 165, 166, 167, 168, 169, 170, 171, 172, 173, 174, 175, 176, 177] (by decide +kernel) (by decide +kernel)
set_option maxRecDepth 20000 in
theorem gL_call_X4_pause : GoodIn wsL_call (wsV RL 67 RX4 yX4_pause wsX4_pause) := goodIn_app (goodIn_of _ (by decide +kernel)) ggL_call_X4_pause
set_option maxRecDepth 20000 in
theorem ggL_call_X4_sendBreak : GoodIn wsL_call wsX4_sendBreak := goodIn_r _ [95, 84, 85, 86, 4, 87, 6, 7, 21, 22, 23, 14, 24, 25, 26, 27, 28, 29, 30, 31, 32, 33, 34, 35, 36, 37, 38, 39, 40, 41, 42, 43, 44, 45, 46, 16, 47, 88, 89, 90, 91, 53, 67, 68, 69, 70, 71, 72, 73, 74, 75, 76, 77, 78, 79, 164, 165, 166, 167, 168, 169, 170, 171, 172, 173, 174, 175, 176, 177] (by decide +kernel) (by decide +kernel)
set_option maxRecDepth 20000 in
theorem gL_call_X4_sendBreak : GoodIn wsL_call (wsV RL 70 RX4 yX4_sendBreak wsX4_sendBreak) := goodIn_app (goodIn_of _ (by decide +kernel)) ggL_call_X4_sendBreak
set_option maxRecDepth 20000 in
theorem ggL_call_X4_disturb : GoodIn wsL_call wsX4_disturb := goodIn_r _ [99, 6, 7, 100, 101, 4, 102, 76, 77, 78, 14, 79, 25, 26, 27, 28, 29, 30, 31, 32, 33, 34, 35, 36, 37, 38, 39, 40, 41, 42, 43, 44, 45, 46, 16, 47, 103, 104, 105, 106, 71, 72, 73, 74, 107, 108, 109, 110, 164, 165, 166, 167, 168, 169, 170, 171, 172, 173, 174, 175, 176, 177] (by decide +kernel) (by decide +kernel)
set_option maxRecDepth 20000 in
theorem gL_call_X4_disturb : GoodIn wsL_call (wsV RL 73 RX4 yX4_disturb wsX4_disturb) := goodIn_app (goodIn_of _ (by decide +kernel)) ggL_call_X4_disturb
set_option maxRecDepth 20000 in
theorem ggL_call_X4_clear : GoodIn wsL_call wsX4_clear := goodIn_r _ [114, 6, 7, 76, 77, 78, 14, 79, 25, 26, 27, 28, 29, 30, 31, 32, 33, 34, 35, 36, 37, 38, 39, 40, 41, 42, 43, 44, 45, 46, 16, 47, 115, 116, 117, 118, 75, 119, 120, 121, 122, 164, 165, 166, 167, 168, 169, 170, 171, 172, 173, 174, 175, 176, 177] (by decide +kernel) (by decide +kernel)
set_option maxRecDepth 20000 in
theorem gL_call_X4_clear : GoodIn wsL_call (wsV RL 76 RX4 yX4_clear wsX4_clear) := goodIn_app (goodIn_of _ (by decide +kernel)) ggL_call_X4_clear
set_option maxRecDepth 20000 in
theorem ggL_call_X4_set : GoodIn wsL_call wsX4_set := goodIn_r _ [126, 127, 128, 6, 7, 129, 130, 131, 14, 132, 16, 26, 27, 28, 29, 30, 31, 32, 33, 34, 35, 36, 37, 38, 39, 40, 41, 42, 43, 44, 45, 46, 25, 47, 133, 134, 135, 136, 164, 165, 166, 167, 168, 169, 170, 171, 172, 173, 174, 175, 176, 177] (by decide +kernel) (by decide +kernel)
set_option maxRecDepth 20000 in
theorem gL_call_X4_set : GoodIn wsL_call (wsV RL 80 RX4 yX4_set wsX4_set) := goodIn_app (goodIn_of _ (by decide +kernel)) ggL_call_X4_set
set_option maxRecDepth 20000 in
theorem ggL_call_X4_learn : GoodIn wsL_call wsX4_learn := goodIn_r _ [140, 6, 7, 141, 142, 143, 14, 144, 145, 146, 147, 148, 25, 149, 150, 151, 152, 71, 72, 73, 74, 75, 153, 154, 155, 156, 41, 157, 158, 159, 160, 161, 162, 163, 129, 130, 131, 132, 16, 26, 27, 28, 29, 30, 31, 32, 33, 34, 35, 36, 37, 38, 39, 40, 42, 43, 44, 45, 46, 47, 133, 134, 135, 136, 164, 165, 166, 167, 168, 169, 170, 171, 172, 173, 174, 175, 176, 177] (by decide +kernel) (by decide +kernel)
set_option maxRecDepth 20000 in
theorem gL_call_X4_learn : GoodIn wsL_call (wsV RL 83 RX4 yX4_learn wsX4_learn) := goodIn_app (goodIn_of _ (by decide +kernel)) ggL_call_X4_learn
theorem dL_call_0 : decode cL_call 0 = .ok (.iload_n 1, 1) := by decide +kernel
theorem dL_call_1 : decode cL_call 1 = .ok (.tableswitch 76 0 5 #[39, 45, 51, 57, 64, 69], 39) := by decide +kernel
theorem dL_call_40 : decode cL_call 40 = .ok (.aload_n 0, 1) := by decide +kernel
theorem dL_call_41 : decode cL_call 41 = .ok (.iload_n 2, 1) := by decide +kernel
theorem dL_call_42 : decode cL_call 42 = .ok (.invokevirtual 64, 3) := by decide +kernel
theorem dL_call_45 : decode cL_call 45 = .ok (.ireturn, 1) := by decide +kernel
theorem dL_call_46 : decode cL_call 46 = .ok (.aload_n 0, 1) := by decide +kernel
theorem dL_call_47 : decode cL_call 47 = .ok (.iload_n 2, 1) := by decide +kernel
theorem dL_call_48 : decode cL_call 48 = .ok (.invokevirtual 67, 3) := by decide +kernel
theorem dL_call_51 : decode cL_call 51 = .ok (.ireturn, 1) := by decide +kernel
theorem dL_call_52 : decode cL_call 52 = .ok (.aload_n 0, 1) := by decide +kernel
theorem dL_call_53 : decode cL_call 53 = .ok (.iload_n 2, 1) := by decide +kernel
theorem dL_call_54 : decode cL_call 54 = .ok (.invokevirtual 70, 3) := by decide +kernel
theorem dL_call_57 : decode cL_call 57 = .ok (.ireturn, 1) := by decide +kernel
theorem dL_call_58 : decode cL_call 58 = .ok (.aload_n 0, 1) := by decide +kernel
theorem dL_call_59 : decode cL_call 59 = .ok (.iload_n 2, 1) := by decide +kernel
theorem dL_call_60 : decode cL_call 60 = .ok (.iload_n 3, 1) := by decide +kernel
theorem dL_call_61 : decode cL_call 61 = .ok (.invokevirtual 73, 3) := by decide +kernel
theorem dL_call_64 : decode cL_call 64 = .ok (.ireturn, 1) := by decide +kernel
theorem dL_call_65 : decode cL_call 65 = .ok (.aload_n 0, 1) := by decide +kernel
theorem dL_call_66 : decode cL_call 66 = .ok (.invokevirtual 76, 3) := by decide +kernel
theorem dL_call_69 : decode cL_call 69 = .ok (.ireturn, 1) := by decide +kernel
theorem dL_call_70 : decode cL_call 70 = .ok (.aload_n 0, 1) := by decide +kernel
theorem dL_call_71 : decode cL_call 71 = .ok (.iload_n 2, 1) := by decide +kernel
theorem dL_call_72 : decode cL_call 72 = .ok (.iload_n 3, 1) := by decide +kernel
theorem dL_call_73 : decode cL_call 73 = .ok (.invokevirtual 80, 3) := by decide +kernel
theorem dL_call_76 : decode cL_call 76 = .ok (.ireturn, 1) := by decide +kernel
theorem dL_call_77 : decode cL_call 77 = .ok (.aload_n 0, 1) := by decide +kernel
theorem dL_call_78 : decode cL_call 78 = .ok (.invokevirtual 83, 3) := by decide +kernel
theorem dL_call_81 : decode cL_call 81 = .ok (.ireturn, 1) := by decide +kernel
set_option maxRecDepth 20000 in
theorem ggL_due_L_sends : GoodIn wsL_due wsL_sends := goodIn_r _ [4, 5, 6, 3, 7, 8, 9, 10, 11, 12, 13, 14, 15, 16] (by decide +kernel) (by decide +kernel)
set_option maxRecDepth 20000 in
theorem gL_due_L_sends : GoodIn wsL_due (va_wsS RL 86 yL_sends wsL_sends) := goodIn_app (goodIn_of _ (by decide +kernel)) ggL_due_L_sends
set_option maxRecDepth 20000 in
theorem ggL_due_L_runs : GoodIn wsL_due wsL_runs := goodIn_r _ [13, 14, 15, 3, 16] (by decide +kernel) (by decide +kernel)
set_option maxRecDepth 20000 in
theorem gL_due_L_runs : GoodIn wsL_due (va_wsS RL 24 yL_runs wsL_runs) := goodIn_app (goodIn_of _ (by decide +kernel)) ggL_due_L_runs
set_option maxRecDepth 20000 in
theorem ggL_due_L_level : GoodIn wsL_due wsL_level := goodIn_r _ [19] (by decide +kernel) (by decide +kernel)
set_option maxRecDepth 20000 in
theorem gL_due_L_level : GoodIn wsL_due (va_wsS RL 28 yL_level wsL_level) := goodIn_app (goodIn_of _ (by decide +kernel)) ggL_due_L_level
set_option maxRecDepth 20000 in
theorem ggL_due_L_puts : GoodIn wsL_due wsL_puts := goodIn_r _ [16] (by decide +kernel) (by decide +kernel)
set_option maxRecDepth 20000 in
theorem gL_due_L_puts : GoodIn wsL_due (va_wsS RL 10 yL_puts wsL_puts) := goodIn_app (goodIn_of _ (by decide +kernel)) ggL_due_L_puts
set_option maxRecDepth 20000 in
theorem ggL_due_L_learned : GoodIn wsL_due wsL_learned := goodIn_r _ [22, 17, 18, 3, 19] (by decide +kernel) (by decide +kernel)
set_option maxRecDepth 20000 in
theorem gL_due_L_learned : GoodIn wsL_due (va_wsS RL 49 yL_learned wsL_learned) := goodIn_app (goodIn_of _ (by decide +kernel)) ggL_due_L_learned
theorem dL_due_0 : decode cL_due 0 = .ok (.iload_n 0, 1) := by decide +kernel
theorem dL_due_1 : decode cL_due 1 = .ok (.tableswitch 188 0 5 #[39, 49, 49, 83, 148, 165], 39) := by decide +kernel
theorem dL_due_40 : decode cL_due 40 = .ok (.iload_n 1, 1) := by decide +kernel
theorem dL_due_41 : decode cL_due 41 = .ok (.aload_n 3, 1) := by decide +kernel
theorem dL_due_42 : decode cL_due 42 = .ok (.aload 4, 2) := by decide +kernel
theorem dL_due_44 : decode cL_due 44 = .ok (.aload 5, 2) := by decide +kernel
theorem dL_due_46 : decode cL_due 46 = .ok (.invokestatic 86, 3) := by decide +kernel
theorem dL_due_49 : decode cL_due 49 = .ok (.ireturn, 1) := by decide +kernel
theorem dL_due_50 : decode cL_due 50 = .ok (.aload_n 3, 1) := by decide +kernel
theorem dL_due_51 : decode cL_due 51 = .ok (.iconst 5, 1) := by decide +kernel
theorem dL_due_52 : decode cL_due 52 = .ok (.iaload, 1) := by decide +kernel
theorem dL_due_53 : decode cL_due 53 = .ok (.iload_n 1, 1) := by decide +kernel
theorem dL_due_54 : decode cL_due 54 = .ok (.iadd, 1) := by decide +kernel
theorem dL_due_55 : decode cL_due 55 = .ok (.sipush 1500, 3) := by decide +kernel
theorem dL_due_58 : decode cL_due 58 = .ok (.if_icmp .le 8, 3) := by decide +kernel
theorem dL_due_61 : decode cL_due 61 = .ok (.bipush (-3), 2) := by decide +kernel
theorem dL_due_63 : decode cL_due 63 = .ok (.goto 20, 3) := by decide +kernel
theorem dL_due_66 : decode cL_due 66 = .ok (.iload_n 0, 1) := by decide +kernel
theorem dL_due_67 : decode cL_due 67 = .ok (.iconst 1, 1) := by decide +kernel
theorem dL_due_68 : decode cL_due 68 = .ok (.if_icmp .ne 7, 3) := by decide +kernel
theorem dL_due_71 : decode cL_due 71 = .ok (.iconst 1, 1) := by decide +kernel
theorem dL_due_72 : decode cL_due 72 = .ok (.goto 4, 3) := by decide +kernel
theorem dL_due_75 : decode cL_due 75 = .ok (.iconst 0, 1) := by decide +kernel
theorem dL_due_76 : decode cL_due 76 = .ok (.iload_n 1, 1) := by decide +kernel
theorem dL_due_77 : decode cL_due 77 = .ok (.aload_n 3, 1) := by decide +kernel
theorem dL_due_78 : decode cL_due 78 = .ok (.aload 5, 2) := by decide +kernel
theorem dL_due_80 : decode cL_due 80 = .ok (.invokestatic 24, 3) := by decide +kernel
theorem dL_due_83 : decode cL_due 83 = .ok (.ireturn, 1) := by decide +kernel
theorem dL_due_84 : decode cL_due 84 = .ok (.iload_n 1, 1) := by decide +kernel
theorem dL_due_85 : decode cL_due 85 = .ok (.iload_n 2, 1) := by decide +kernel
theorem dL_due_86 : decode cL_due 86 = .ok (.iadd, 1) := by decide +kernel
theorem dL_due_87 : decode cL_due 87 = .ok (.aload_n 3, 1) := by decide +kernel
theorem dL_due_88 : decode cL_due 88 = .ok (.iconst 5, 1) := by decide +kernel
theorem dL_due_89 : decode cL_due 89 = .ok (.iaload, 1) := by decide +kernel
theorem dL_due_90 : decode cL_due 90 = .ok (.if_icmp .le 6, 3) := by decide +kernel
theorem dL_due_93 : decode cL_due 93 = .ok (.bipush (-2), 2) := by decide +kernel
theorem dL_due_95 : decode cL_due 95 = .ok (.ireturn, 1) := by decide +kernel
theorem dL_due_96 : decode cL_due 96 = .ok (.iconst 0, 1) := by decide +kernel
theorem dL_due_97 : decode cL_due 97 = .ok (.istore 6, 2) := by decide +kernel
theorem dL_due_99 : decode cL_due 99 = .ok (.iload_n 1, 1) := by decide +kernel
theorem dL_due_100 : decode cL_due 100 = .ok (.istore 7, 2) := by decide +kernel
theorem dL_due_102 : decode cL_due 102 = .ok (.iload 7, 2) := by decide +kernel
theorem dL_due_104 : decode cL_due 104 = .ok (.iload_n 1, 1) := by decide +kernel
theorem dL_due_105 : decode cL_due 105 = .ok (.iload_n 2, 1) := by decide +kernel
theorem dL_due_106 : decode cL_due 106 = .ok (.iadd, 1) := by decide +kernel
theorem dL_due_107 : decode cL_due 107 = .ok (.if_icmp .ge 39, 3) := by decide +kernel
theorem dL_due_110 : decode cL_due 110 = .ok (.iload 7, 2) := by decide +kernel
theorem dL_due_112 : decode cL_due 112 = .ok (.iconst 1, 1) := by decide +kernel
theorem dL_due_113 : decode cL_due 113 = .ok (.iload 7, 2) := by decide +kernel
theorem dL_due_115 : decode cL_due 115 = .ok (.aload_n 3, 1) := by decide +kernel
theorem dL_due_116 : decode cL_due 116 = .ok (.aload 5, 2) := by decide +kernel
theorem dL_due_118 : decode cL_due 118 = .ok (.invokestatic 28, 3) := by decide +kernel
theorem dL_due_121 : decode cL_due 121 = .ok (.isub, 1) := by decide +kernel
theorem dL_due_122 : decode cL_due 122 = .ok (.aload 5, 2) := by decide +kernel
theorem dL_due_124 : decode cL_due 124 = .ok (.invokestatic 10, 3) := by decide +kernel
theorem dL_due_127 : decode cL_due 127 = .ok (.iload 6, 2) := by decide +kernel
theorem dL_due_129 : decode cL_due 129 = .ok (.iload 7, 2) := by decide +kernel
theorem dL_due_131 : decode cL_due 131 = .ok (.aload_n 3, 1) := by decide +kernel
theorem dL_due_132 : decode cL_due 132 = .ok (.aload 5, 2) := by decide +kernel
theorem dL_due_134 : decode cL_due 134 = .ok (.invokestatic 28, 3) := by decide +kernel
theorem dL_due_137 : decode cL_due 137 = .ok (.iadd, 1) := by decide +kernel
theorem dL_due_138 : decode cL_due 138 = .ok (.istore 6, 2) := by decide +kernel
theorem dL_due_140 : decode cL_due 140 = .ok (.iinc 7 1, 3) := by decide +kernel
theorem dL_due_143 : decode cL_due 143 = .ok (.goto (-41), 3) := by decide +kernel
theorem dL_due_146 : decode cL_due 146 = .ok (.iload 6, 2) := by decide +kernel
theorem dL_due_148 : decode cL_due 148 = .ok (.ireturn, 1) := by decide +kernel
theorem dL_due_149 : decode cL_due 149 = .ok (.aload_n 3, 1) := by decide +kernel
theorem dL_due_150 : decode cL_due 150 = .ok (.iconst 5, 1) := by decide +kernel
theorem dL_due_151 : decode cL_due 151 = .ok (.iaload, 1) := by decide +kernel
theorem dL_due_152 : decode cL_due 152 = .ok (.istore 7, 2) := by decide +kernel
theorem dL_due_154 : decode cL_due 154 = .ok (.aload_n 3, 1) := by decide +kernel
theorem dL_due_155 : decode cL_due 155 = .ok (.iconst 5, 1) := by decide +kernel
theorem dL_due_156 : decode cL_due 156 = .ok (.iconst 0, 1) := by decide +kernel
theorem dL_due_157 : decode cL_due 157 = .ok (.iastore, 1) := by decide +kernel
theorem dL_due_158 : decode cL_due 158 = .ok (.aload_n 3, 1) := by decide +kernel
theorem dL_due_159 : decode cL_due 159 = .ok (.bipush 6, 2) := by decide +kernel
theorem dL_due_161 : decode cL_due 161 = .ok (.iconst 0, 1) := by decide +kernel
theorem dL_due_162 : decode cL_due 162 = .ok (.iastore, 1) := by decide +kernel
theorem dL_due_163 : decode cL_due 163 = .ok (.iload 7, 2) := by decide +kernel
theorem dL_due_165 : decode cL_due 165 = .ok (.ireturn, 1) := by decide +kernel
theorem dL_due_166 : decode cL_due 166 = .ok (.aload_n 3, 1) := by decide +kernel
theorem dL_due_167 : decode cL_due 167 = .ok (.iload_n 1, 1) := by decide +kernel
theorem dL_due_168 : decode cL_due 168 = .ok (.iaload, 1) := by decide +kernel
theorem dL_due_169 : decode cL_due 169 = .ok (.istore 8, 2) := by decide +kernel
theorem dL_due_171 : decode cL_due 171 = .ok (.aload_n 3, 1) := by decide +kernel
theorem dL_due_172 : decode cL_due 172 = .ok (.iload_n 1, 1) := by decide +kernel
theorem dL_due_173 : decode cL_due 173 = .ok (.iload_n 2, 1) := by decide +kernel
theorem dL_due_174 : decode cL_due 174 = .ok (.iastore, 1) := by decide +kernel
theorem dL_due_175 : decode cL_due 175 = .ok (.iload 8, 2) := by decide +kernel
theorem dL_due_177 : decode cL_due 177 = .ok (.iload_n 2, 1) := by decide +kernel
theorem dL_due_178 : decode cL_due 178 = .ok (.if_icmp .ne 8, 3) := by decide +kernel
theorem dL_due_181 : decode cL_due 181 = .ok (.bipush (-5), 2) := by decide +kernel
theorem dL_due_183 : decode cL_due 183 = .ok (.goto 5, 3) := by decide +kernel
theorem dL_due_186 : decode cL_due 186 = .ok (.iload 8, 2) := by decide +kernel
theorem dL_due_188 : decode cL_due 188 = .ok (.ireturn, 1) := by decide +kernel
theorem dL_due_189 : decode cL_due 189 = .ok (.aload_n 3, 1) := by decide +kernel
theorem dL_due_190 : decode cL_due 190 = .ok (.aload 5, 2) := by decide +kernel
theorem dL_due_192 : decode cL_due 192 = .ok (.invokestatic 49, 3) := by decide +kernel
theorem dL_due_195 : decode cL_due 195 = .ok (.istore 9, 2) := by decide +kernel
theorem dL_due_197 : decode cL_due 197 = .ok (.iload 9, 2) := by decide +kernel
theorem dL_due_199 : decode cL_due 199 = .ok (.aload_n 3, 1) := by decide +kernel
theorem dL_due_200 : decode cL_due 200 = .ok (.iconst 1, 1) := by decide +kernel
theorem dL_due_201 : decode cL_due 201 = .ok (.iaload, 1) := by decide +kernel
theorem dL_due_202 : decode cL_due 202 = .ok (.if_icmp .ne 6, 3) := by decide +kernel
theorem dL_due_205 : decode cL_due 205 = .ok (.bipush (-5), 2) := by decide +kernel
theorem dL_due_207 : decode cL_due 207 = .ok (.ireturn, 1) := by decide +kernel
theorem dL_due_208 : decode cL_due 208 = .ok (.aload_n 3, 1) := by decide +kernel
theorem dL_due_209 : decode cL_due 209 = .ok (.iconst 1, 1) := by decide +kernel
theorem dL_due_210 : decode cL_due 210 = .ok (.iload 9, 2) := by decide +kernel
theorem dL_due_212 : decode cL_due 212 = .ok (.ifCond .ge 9, 3) := by decide +kernel
theorem dL_due_215 : decode cL_due 215 = .ok (.aload_n 3, 1) := by decide +kernel
theorem dL_due_216 : decode cL_due 216 = .ok (.iconst 1, 1) := by decide +kernel
theorem dL_due_217 : decode cL_due 217 = .ok (.iaload, 1) := by decide +kernel
theorem dL_due_218 : decode cL_due 218 = .ok (.goto 5, 3) := by decide +kernel
theorem dL_due_221 : decode cL_due 221 = .ok (.iload 9, 2) := by decide +kernel
theorem dL_due_223 : decode cL_due 223 = .ok (.iastore, 1) := by decide +kernel
theorem dL_due_224 : decode cL_due 224 = .ok (.iload 9, 2) := by decide +kernel
theorem dL_due_226 : decode cL_due 226 = .ok (.ireturn, 1) := by decide +kernel
set_option maxRecDepth 20000 in
theorem ggL_told_X4_total : GoodIn wsL_told wsX4_total := goodIn_r _ [8, 9, 10, 11, 12, 13, 14, 15, 16, 17, 18, 19, 20, 21, 22, 23, 24, 25, 26, 27, 28, 29, 30, 31, 32, 33, 34, 35, 36, 37, 38, 39, 40, 41, 42, 43, 44, 45, 46, 47, 48, 49, 50, 51, 52, 53, 54, 55, 56, 57, 58, 59, 60, 61, 62, 63, 64, 65, 66, 67, 68, 69, 70, 71, 72, 73, 74, 75, 76, 77, 78, 79, 7, 80, 81, 82, 83, 84, 85, 86, 87, 88, 89, 90, 91, 92, 93, 94, 95, 96, 97, 98, 99, 100, 101, 102, 103, 104, 105, 106, 107, 108, 109, 110, 111, 112, 113, 114, 115, 116, 117, 118, 119, 120, 121, 122, 123, 124, 125, 126, 127, 128, 129, 130, 131, 132, 133, 134, 135, 136, 137, 138, 139, 140, 141, 142, 143, 144, 145, 146, 147, 148, 149, 150, 151, 152, 153, 154, 155, 156, 157, 158, 159, 160, 161, 167, 168, 169, 170, 171, 172, 173, 174, 175, 176, 177, 178, 179, 180, 181, 182, 183, 184, 185, 186, 187, 188, 189] (by decide +kernel) (by decide +kernel)
set_option maxRecDepth 20000 in
theorem gL_told_X4_total : GoodIn wsL_told (wsV RL 43 RX4 yX4_total wsX4_total) := goodIn_app (goodIn_of _ (by decide +kernel)) ggL_told_X4_total
set_option maxRecDepth 20000 in
theorem ggL_told_X4_level : GoodIn wsL_told wsX4_level := goodIn_r _ [165, 9, 166, 101, 102, 15, 103, 22, 36, 167, 168, 169, 170, 171, 172, 173, 174, 175, 176] (by decide +kernel) (by decide +kernel)
set_option maxRecDepth 20000 in
theorem gL_told_X4_level : GoodIn wsL_told (wsV RL 56 RX4 yX4_level wsX4_level) := goodIn_app (goodIn_of _ (by decide +kernel)) ggL_told_X4_level
theorem dL_told_0 : decode cL_told 0 = .ok (.ldc2_w 90, 3) := by decide +kernel
theorem dL_told_3 : decode cL_told 3 = .ok (.lstore_n 1, 1) := by decide +kernel
theorem dL_told_4 : decode cL_told 4 = .ok (.iconst 0, 1) := by decide +kernel
theorem dL_told_5 : decode cL_told 5 = .ok (.istore_n 3, 1) := by decide +kernel
theorem dL_told_6 : decode cL_told 6 = .ok (.iload_n 3, 1) := by decide +kernel
theorem dL_told_7 : decode cL_told 7 = .ok (.bipush 17, 2) := by decide +kernel
theorem dL_told_9 : decode cL_told 9 = .ok (.if_icmp .ge 22, 3) := by decide +kernel
theorem dL_told_12 : decode cL_told 12 = .ok (.ldc2_w 92, 3) := by decide +kernel
theorem dL_told_15 : decode cL_told 15 = .ok (.lload_n 1, 1) := by decide +kernel
theorem dL_told_16 : decode cL_told 16 = .ok (.lmul, 1) := by decide +kernel
theorem dL_told_17 : decode cL_told 17 = .ok (.aload_n 0, 1) := by decide +kernel
theorem dL_told_18 : decode cL_told 18 = .ok (.iload_n 3, 1) := by decide +kernel
theorem dL_told_19 : decode cL_told 19 = .ok (.invokevirtual 43, 3) := by decide +kernel
theorem dL_told_22 : decode cL_told 22 = .ok (.i2l, 1) := by decide +kernel
theorem dL_told_23 : decode cL_told 23 = .ok (.ladd, 1) := by decide +kernel
theorem dL_told_24 : decode cL_told 24 = .ok (.lstore_n 1, 1) := by decide +kernel
theorem dL_told_25 : decode cL_told 25 = .ok (.iinc 3 1, 3) := by decide +kernel
theorem dL_told_28 : decode cL_told 28 = .ok (.goto (-22), 3) := by decide +kernel
theorem dL_told_31 : decode cL_told 31 = .ok (.iconst 0, 1) := by decide +kernel
theorem dL_told_32 : decode cL_told 32 = .ok (.istore_n 3, 1) := by decide +kernel
theorem dL_told_33 : decode cL_told 33 = .ok (.iload_n 3, 1) := by decide +kernel
theorem dL_told_34 : decode cL_told 34 = .ok (.sipush 1500, 3) := by decide +kernel
theorem dL_told_37 : decode cL_told 37 = .ok (.if_icmp .ge 22, 3) := by decide +kernel
theorem dL_told_40 : decode cL_told 40 = .ok (.ldc2_w 94, 3) := by decide +kernel
theorem dL_told_43 : decode cL_told 43 = .ok (.lload_n 1, 1) := by decide +kernel
theorem dL_told_44 : decode cL_told 44 = .ok (.lmul, 1) := by decide +kernel
theorem dL_told_45 : decode cL_told 45 = .ok (.aload_n 0, 1) := by decide +kernel
theorem dL_told_46 : decode cL_told 46 = .ok (.iload_n 3, 1) := by decide +kernel
theorem dL_told_47 : decode cL_told 47 = .ok (.invokevirtual 56, 3) := by decide +kernel
theorem dL_told_50 : decode cL_told 50 = .ok (.i2l, 1) := by decide +kernel
theorem dL_told_51 : decode cL_told 51 = .ok (.ladd, 1) := by decide +kernel
theorem dL_told_52 : decode cL_told 52 = .ok (.lstore_n 1, 1) := by decide +kernel
theorem dL_told_53 : decode cL_told 53 = .ok (.iinc 3 7, 3) := by decide +kernel
theorem dL_told_56 : decode cL_told 56 = .ok (.goto (-23), 3) := by decide +kernel
theorem dL_told_59 : decode cL_told 59 = .ok (.lload_n 1, 1) := by decide +kernel
theorem dL_told_60 : decode cL_told 60 = .ok (.lreturn, 1) := by decide +kernel
/-! ===== END printed ===== -/
