set_option maxRecDepth 20000 in
theorem gL_law_X5_clear : GoodIn wsL_law (wsV RL 35 RX5 yX5_clear wsX5_clear) := goodIn_app (goodIn_of _ (by decide +kernel)) ggL_law_X5_clear
set_option maxRecDepth 20000 in
theorem ggL_law_X4_set : GoodIn wsL_law wsX4_set := goodIn_r _ [263, 264, 265, 15, 28, 266, 267, 268, 14, 269, 37, 105, 106, 107, 27, 108, 109, 66, 110, 111, 112, 113, 114, 115, 116, 117, 34, 39, 40, 41, 42, 36, 104, 118, 270, 271, 272, 273, 714, 715, 716, 717, 718, 739, 740, 741, 742, 743, 752, 753, 754, 755] (by decide +kernel) (by decide +kernel)
set_option maxRecDepth 20000 in
theorem gL_law_X4_set : GoodIn wsL_law (wsV RL 36 RX4 yX4_set wsX4_set) := goodIn_app (goodIn_of _ (by decide +kernel)) ggL_law_X4_set
set_option maxRecDepth 20000 in
theorem ggL_law_X5_set : GoodIn wsL_law wsX5_set := goodIn_r _ [277, 73, 154, 155, 5, 156, 278, 279, 280, 240, 241, 242, 243, 157, 158, 159, 160, 76, 184, 185, 186, 187, 188, 74, 719, 720, 721, 722, 723, 724, 725, 726, 727, 728, 729, 730, 731, 732, 733, 734, 735, 736, 737, 738] (by decide +kernel) (by decide +kernel)
set_option maxRecDepth 20000 in
theorem gL_law_X5_set : GoodIn wsL_law (wsV RL 39 RX5 yX5_set wsX5_set) := goodIn_app (goodIn_of _ (by decide +kernel)) ggL_law_X5_set
set_option maxRecDepth 20000 in
theorem ggL_law_X4_learn : GoodIn wsL_law wsX4_learn := goodIn_r _ [284, 15, 28, 285, 286, 287, 14, 288, 289, 290, 291, 292, 104, 293, 294, 295, 296, 142, 143, 144, 145, 297, 298, 299, 300, 34, 38, 301, 302, 303, 304, 305, 306, 307, 308, 309, 310, 266, 267, 268, 269, 37, 105, 106, 107, 27, 108, 109, 66, 110, 111, 112, 113, 114, 115, 116, 117, 39, 40, 41, 42, 36, 118, 270, 271, 272, 273, 714, 715, 716, 717, 718, 739, 740, 741, 742, 743, 752, 753, 754, 755] (by decide +kernel) (by decide +kernel)
set_option maxRecDepth 20000 in
theorem gL_law_X4_learn : GoodIn wsL_law (wsV RL 40 RX4 yX4_learn wsX4_learn) := goodIn_app (goodIn_of _ (by decide +kernel)) ggL_law_X4_learn
set_option maxRecDepth 20000 in
theorem ggL_law_X5_learn : GoodIn wsL_law wsX5_learn := goodIn_r _ [314, 73, 315, 316, 317, 5, 318, 319, 320, 321, 322, 323, 324, 325, 326, 327, 328, 329, 330, 154, 155, 156, 240, 241, 242, 243, 157, 158, 159, 160, 76, 184, 185, 186, 187, 188, 74, 719, 720, 721, 722, 723, 724, 725, 726, 727, 728, 729, 730, 731, 732, 733, 734, 735, 736, 737, 738] (by decide +kernel) (by decide +kernel)
set_option maxRecDepth 20000 in
theorem gL_law_X5_learn : GoodIn wsL_law (wsV RL 43 RX5 yX5_learn wsX5_learn) := goodIn_app (goodIn_of _ (by decide +kernel)) ggL_law_X5_learn
set_option maxRecDepth 20000 in
theorem ggL_law_X4_type : GoodIn wsL_law wsX4_type := goodIn_r _ [334, 24, 335, 336, 337, 23, 338, 339, 58, 340, 341, 342, 343, 714, 715, 716, 717, 718, 748, 749, 750, 751] (by decide +kernel) (by decide +kernel)
set_option maxRecDepth 20000 in
theorem gL_law_X4_type : GoodIn wsL_law (wsV RL 44 RX4 yX4_type wsX4_type) := goodIn_app (goodIn_of _ (by decide +kernel)) ggL_law_X4_type
set_option maxRecDepth 20000 in
theorem ggL_law_X5_type : GoodIn wsL_law wsX5_type := goodIn_r _ [347, 348, 77, 719, 720, 721, 722, 723, 724, 725, 726, 727, 728, 729, 730, 731, 732, 733, 734, 735, 736, 737, 738] (by decide +kernel) (by decide +kernel)
set_option maxRecDepth 20000 in
theorem gL_law_X5_type : GoodIn wsL_law (wsV RL 48 RX5 yX5_type wsX5_type) := goodIn_app (goodIn_of _ (by decide +kernel)) ggL_law_X5_type
set_option maxRecDepth 20000 in
theorem ggL_law_X4_clearText : GoodIn wsL_law wsX4_clearText := goodIn_r _ [352, 24, 340, 341, 342, 23, 343, 339, 353, 354, 355, 356, 714, 715, 716, 717, 718, 748, 749, 750, 751] (by decide +kernel) (by decide +kernel)
set_option maxRecDepth 20000 in
theorem gL_law_X4_clearText : GoodIn wsL_law (wsV RL 49 RX4 yX4_clearText wsX4_clearText) := goodIn_app (goodIn_of _ (by decide +kernel)) ggL_law_X4_clearText
set_option maxRecDepth 20000 in
theorem ggL_law_X5_clearText : GoodIn wsL_law wsX5_clearText := goodIn_r _ [360, 348, 719, 720, 721, 722, 723, 724, 725, 726, 727, 728, 729, 730, 731, 732, 733, 734, 735, 736, 737, 738] (by decide +kernel) (by decide +kernel)
set_option maxRecDepth 20000 in
theorem gL_law_X5_clearText : GoodIn wsL_law (wsV RL 52 RX5 yX5_clearText wsX5_clearText) := goodIn_app (goodIn_of _ (by decide +kernel)) ggL_law_X5_clearText
set_option maxRecDepth 20000 in
theorem ggL_law_X4_perform : GoodIn wsL_law wsX4_perform := goodIn_r _ [364, 24, 16, 15, 28, 365, 366, 367, 23, 368, 339, 369, 370, 371, 372, 58, 373, 374, 375, 376, 377, 378, 379, 380, 381, 382, 383, 384, 385, 386, 387, 388, 389, 390, 391, 392, 393, 394, 115, 116, 14, 117, 34, 39, 40, 41, 42, 36, 37, 104, 118, 395, 396, 397, 398, 399, 59, 400, 401, 402, 403, 60, 404, 405, 406, 407, 408, 409, 410, 411, 412, 413, 414, 415, 416, 198, 199, 200, 124, 101, 102, 103, 138, 139, 140, 141, 142, 143, 144, 145, 38, 417, 120, 121, 122, 123, 93, 94, 95, 96, 97, 98, 99, 125, 126, 127, 128, 129, 2, 130, 131, 132, 133, 134, 135, 136, 137, 418, 419, 420, 421, 105, 106, 107, 27, 108, 109, 66, 110, 111, 112, 113, 114, 146, 147, 148, 149, 714, 715, 716, 717, 718, 748, 749, 750, 751, 739, 740, 741, 742, 743, 752, 753, 754, 755] (by decide +kernel) (by decide +kernel)
set_option maxRecDepth 20000 in
theorem gL_law_X4_perform : GoodIn wsL_law (wsV RL 53 RX4 yX4_perform wsX4_perform) := goodIn_app (goodIn_of _ (by decide +kernel)) ggL_law_X4_perform
set_option maxRecDepth 20000 in
theorem ggL_law_X5_perform : GoodIn wsL_law wsX5_perform := goodIn_r _ [425, 426, 427, 348, 79, 78, 73, 428, 429, 430, 5, 431, 432, 433, 434, 435, 436, 437, 438, 439, 77, 154, 155, 156, 440, 441, 442, 443, 444, 445, 446, 447, 448, 449, 450, 157, 158, 159, 160, 76, 451, 452, 453, 454, 209, 210, 211, 212, 161, 162, 163, 164, 165, 166, 167, 168, 169, 170, 171, 172, 173, 174, 175, 176, 177, 178, 179, 180, 181, 182, 183, 455, 456, 457, 458, 459, 460, 461, 462, 184, 185, 186, 187, 188, 74, 719, 720, 721, 722, 723, 724, 725, 726, 727, 728, 729, 730, 731, 732, 733, 734, 735, 736, 737, 738] (by decide +kernel) (by decide +kernel)
set_option maxRecDepth 20000 in
theorem gL_law_X5_perform : GoodIn wsL_law (wsV RL 56 RX5 yX5_perform wsX5_perform) := goodIn_app (goodIn_of _ (by decide +kernel)) ggL_law_X5_perform
set_option maxRecDepth 20000 in
theorem ggL_law_X4_undo : GoodIn wsL_law wsX4_undo := goodIn_r _ [466, 28, 15, 467, 468, 469, 27, 470, 109, 66, 114, 115, 116, 14, 117, 34, 39, 40, 41, 42, 36, 37, 104, 118, 471, 472, 473, 474, 714, 715, 716, 717, 718, 752, 753, 754, 755, 739, 740, 741, 742, 743] (by decide +kernel) (by decide +kernel)
set_option maxRecDepth 20000 in
theorem gL_law_X4_undo : GoodIn wsL_law (wsV RL 57 RX4 yX4_undo wsX4_undo) := goodIn_app (goodIn_of _ (by decide +kernel)) ggL_law_X4_undo
