set_option maxRecDepth 20000 in
theorem ggL_law_X4_init : GoodIn wsL_law wsX4_init := goodIn_r _ [8, 9, 10, 11, 12, 13, 14, 15, 16, 17, 18, 19, 20, 21, 22, 23, 24, 25, 26, 27, 28, 29, 30, 31, 32, 33, 34, 35, 36, 37, 38, 39, 40, 41, 42, 43, 44, 45, 46, 47, 48, 49, 50, 51, 52, 53, 54, 55, 56, 57, 58, 59, 60, 61, 62, 63, 64, 65, 66, 67, 68, 739, 740, 741, 742, 743, 714, 715, 716, 717, 718, 744, 745, 746, 747, 748, 749, 750, 751, 752, 753, 754, 755] (by decide +kernel) (by decide +kernel)
set_option maxRecDepth 20000 in
theorem gL_law_X4_init : GoodIn wsL_law (wsX4_init) := ggL_law_X4_init
set_option maxRecDepth 20000 in
theorem ggL_law_X5_init : GoodIn wsL_law wsX5_init := goodIn_r _ [71, 72, 10, 11, 35, 73, 74, 75, 76, 77, 78, 79, 80, 81, 82, 83, 84, 719, 720, 721, 722, 723, 724, 725, 726, 727, 728, 729, 730, 731, 732, 733, 734, 735, 736, 737, 738] (by decide +kernel) (by decide +kernel)
set_option maxRecDepth 20000 in
theorem gL_law_X5_init : GoodIn wsL_law (wsX5_init) := ggL_law_X5_init
set_option maxRecDepth 20000 in
theorem ggL_law_X4_send : GoodIn wsL_law wsX4_send := goodIn_r _ [88, 15, 28, 89, 90, 2, 91, 92, 93, 94, 14, 95, 37, 96, 97, 98, 99, 100, 101, 102, 103, 104, 105, 106, 107, 27, 108, 109, 66, 110, 111, 112, 113, 114, 115, 116, 117, 34, 39, 40, 41, 42, 36, 118, 119, 120, 121, 122, 123, 124, 125, 126, 127, 128, 129, 130, 131, 132, 133, 134, 135, 136, 137, 138, 139, 140, 141, 142, 143, 144, 145, 38, 146, 147, 148, 149, 714, 715, 716, 717, 718, 739, 740, 741, 742, 743, 752, 753, 754, 755] (by decide +kernel) (by decide +kernel)
set_option maxRecDepth 20000 in
theorem gL_law_X4_send : GoodIn wsL_law (wsV RL 13 RX4 yX4_send wsX4_send) := goodIn_app (goodIn_of _ (by decide +kernel)) ggL_law_X4_send
set_option maxRecDepth 20000 in
theorem ggL_law_X5_send : GoodIn wsL_law wsX5_send := goodIn_r _ [153, 73, 154, 155, 5, 156, 157, 158, 159, 160, 76, 161, 162, 163, 164, 165, 166, 167, 168, 169, 170, 171, 172, 173, 174, 175, 176, 177, 178, 179, 180, 181, 182, 183, 184, 185, 186, 187, 188, 74, 719, 720, 721, 722, 723, 724, 725, 726, 727, 728, 729, 730, 731, 732, 733, 734, 735, 736, 737, 738] (by decide +kernel) (by decide +kernel)
set_option maxRecDepth 20000 in
theorem gL_law_X5_send : GoodIn wsL_law (wsV RL 17 RX5 yX5_send wsX5_send) := goodIn_app (goodIn_of _ (by decide +kernel)) ggL_law_X5_send
set_option maxRecDepth 20000 in
theorem ggL_law_X4_pause : GoodIn wsL_law wsX4_pause := goodIn_r _ [192, 193, 194, 195, 2, 196, 15, 28, 100, 101, 102, 14, 103, 104, 105, 106, 107, 27, 108, 109, 66, 110, 111, 112, 113, 114, 115, 116, 117, 34, 39, 40, 41, 42, 36, 37, 118, 197, 198, 199, 200, 124, 138, 139, 140, 141, 142, 143, 144, 145, 38, 146, 147, 148, 149, 714, 715, 716, 717, 718, 739, 740, 741, 742, 743, 752, 753, 754, 755] (by decide +kernel) (by decide +kernel)
set_option maxRecDepth 20000 in
theorem gL_law_X4_pause : GoodIn wsL_law (wsV RL 18 RX4 yX4_pause wsX4_pause) := goodIn_app (goodIn_of _ (by decide +kernel)) ggL_law_X4_pause
set_option maxRecDepth 20000 in
theorem ggL_law_X5_pause : GoodIn wsL_law wsX5_pause := goodIn_r _ [204, 205, 206, 207, 5, 208, 73, 154, 155, 156, 157, 158, 159, 160, 76, 209, 210, 211, 212, 184, 185, 186, 187, 188, 74, 719, 720, 721, 722, 723, 724, 725, 726, 727, 728, 729, 730, 731, 732, 733, 734, 735, 736, 737, 738] (by decide +kernel) (by decide +kernel)
set_option maxRecDepth 20000 in
theorem gL_law_X5_pause : GoodIn wsL_law (wsV RL 21 RX5 yX5_pause wsX5_pause) := goodIn_app (goodIn_of _ (by decide +kernel)) ggL_law_X5_pause
set_option maxRecDepth 20000 in
theorem ggL_law_X4_sendBreak : GoodIn wsL_law wsX4_sendBreak := goodIn_r _ [216, 193, 194, 195, 2, 196, 15, 28, 100, 101, 102, 14, 103, 104, 105, 106, 107, 27, 108, 109, 66, 110, 111, 112, 113, 114, 115, 116, 117, 34, 39, 40, 41, 42, 36, 37, 118, 197, 198, 199, 200, 124, 138, 139, 140, 141, 142, 143, 144, 145, 38, 146, 147, 148, 149, 714, 715, 716, 717, 718, 739, 740, 741, 742, 743, 752, 753, 754, 755] (by decide +kernel) (by decide +kernel)
set_option maxRecDepth 20000 in
theorem gL_law_X4_sendBreak : GoodIn wsL_law (wsV RL 22 RX4 yX4_sendBreak wsX4_sendBreak) := goodIn_app (goodIn_of _ (by decide +kernel)) ggL_law_X4_sendBreak
set_option maxRecDepth 20000 in
theorem ggL_law_X5_sendBreak : GoodIn wsL_law wsX5_sendBreak := goodIn_r _ [220, 205, 206, 207, 5, 208, 73, 154, 155, 156, 157, 158, 159, 160, 76, 209, 210, 211, 212, 184, 185, 186, 187, 188, 74, 719, 720, 721, 722, 723, 724, 725, 726, 727, 728, 729, 730, 731, 732, 733, 734, 735, 736, 737, 738] (by decide +kernel) (by decide +kernel)
set_option maxRecDepth 20000 in
theorem gL_law_X5_sendBreak : GoodIn wsL_law (wsV RL 25 RX5 yX5_sendBreak wsX5_sendBreak) := goodIn_app (goodIn_of _ (by decide +kernel)) ggL_law_X5_sendBreak
set_option maxRecDepth 20000 in
theorem ggL_law_X4_disturb : GoodIn wsL_law wsX4_disturb := goodIn_r _ [224, 15, 28, 225, 226, 2, 227, 146, 147, 148, 14, 149, 104, 105, 106, 107, 27, 108, 109, 66, 110, 111, 112, 113, 114, 115, 116, 117, 34, 39, 40, 41, 42, 36, 37, 118, 228, 229, 230, 231, 142, 143, 144, 145, 232, 233, 234, 235, 714, 715, 716, 717, 718, 739, 740, 741, 742, 743, 752, 753, 754, 755] (by decide +kernel) (by decide +kernel)
set_option maxRecDepth 20000 in
theorem gL_law_X4_disturb : GoodIn wsL_law (wsV RL 26 RX4 yX4_disturb wsX4_disturb) := goodIn_app (goodIn_of _ (by decide +kernel)) ggL_law_X4_disturb
set_option maxRecDepth 20000 in
theorem ggL_law_X5_disturb : GoodIn wsL_law wsX5_disturb := goodIn_r _ [239, 73, 154, 155, 5, 156, 240, 241, 242, 243, 157, 158, 159, 160, 76, 184, 185, 186, 187, 188, 74, 244, 245, 246, 247, 719, 720, 721, 722, 723, 724, 725, 726, 727, 728, 729, 730, 731, 732, 733, 734, 735, 736, 737, 738] (by decide +kernel) (by decide +kernel)
set_option maxRecDepth 20000 in
theorem gL_law_X5_disturb : GoodIn wsL_law (wsV RL 30 RX5 yX5_disturb wsX5_disturb) := goodIn_app (goodIn_of _ (by decide +kernel)) ggL_law_X5_disturb
set_option maxRecDepth 20000 in
theorem ggL_law_X4_clear : GoodIn wsL_law wsX4_clear := goodIn_r _ [251, 15, 28, 146, 147, 148, 14, 149, 104, 105, 106, 107, 27, 108, 109, 66, 110, 111, 112, 113, 114, 115, 116, 117, 34, 39, 40, 41, 42, 36, 37, 118, 252, 253, 254, 255, 38, 43, 44, 45, 46, 714, 715, 716, 717, 718, 739, 740, 741, 742, 743, 752, 753, 754, 755] (by decide +kernel) (by decide +kernel)
set_option maxRecDepth 20000 in
theorem gL_law_X4_clear : GoodIn wsL_law (wsV RL 31 RX4 yX4_clear wsX4_clear) := goodIn_app (goodIn_of _ (by decide +kernel)) ggL_law_X4_clear
set_option maxRecDepth 20000 in
theorem ggL_law_X5_clear : GoodIn wsL_law wsX5_clear := goodIn_r _ [259, 73, 240, 241, 242, 5, 243, 157, 158, 159, 160, 76, 184, 185, 186, 187, 188, 74, 719, 720, 721, 722, 723, 724, 725, 726, 727, 728, 729, 730, 731, 732, 733, 734, 735, 736, 737, 738] (by decide +kernel) (by decide +kernel)
