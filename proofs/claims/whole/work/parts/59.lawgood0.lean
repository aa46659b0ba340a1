set_option maxRecDepth 20000 in
theorem ggL_law_X9_init : GoodIn wsL_law wsX9_init := goodIn_r _ [8, 9, 10, 11, 12, 13, 14, 15, 16, 17, 18, 19, 20, 21, 22, 23, 24, 25, 26, 27, 28, 29, 30, 31, 32, 33, 34, 35, 36, 37, 38, 39, 40, 41, 42, 43, 44, 45, 46, 47, 48, 49, 50, 51, 52, 53, 54, 55, 56, 57, 58, 59, 60, 61, 62, 63, 64, 65, 66, 67, 68, 69, 70, 837, 838, 839, 806, 807, 808, 809, 810, 811, 812, 813, 814, 840, 841, 842, 843, 844, 845, 846, 847] (by decide +kernel) (by decide +kernel)
set_option maxRecDepth 20000 in
theorem gL_law_X9_init : GoodIn wsL_law (wsX9_init) := ggL_law_X9_init
set_option maxRecDepth 20000 in
theorem ggL_law_X10_init : GoodIn wsL_law wsX10_init := goodIn_r _ [73, 74, 10, 11, 37, 75, 76, 77, 78, 79, 80, 81, 82, 83, 84, 85, 86, 87, 88, 89, 90, 91, 92, 815, 816, 817, 818, 819, 820, 821, 822, 823, 824, 825, 826, 827, 828, 829, 830, 831, 832, 833, 834, 835, 836] (by decide +kernel) (by decide +kernel)
set_option maxRecDepth 20000 in
theorem gL_law_X10_init : GoodIn wsL_law (wsX10_init) := ggL_law_X10_init
set_option maxRecDepth 20000 in
theorem ggL_law_X9_roll : GoodIn wsL_law wsX9_roll := goodIn_r _ [96, 19, 15, 23, 97, 98, 99, 2, 100, 39, 101, 102, 103, 104, 105, 106, 107, 108, 109, 110, 111, 112, 113, 114, 115, 116, 14, 117, 118, 119, 120, 121, 45, 122, 123, 124, 125, 126, 127, 128, 129, 130, 131, 132, 133, 134, 46, 135, 136, 137, 18, 138, 50, 139, 140, 141, 142, 51, 143, 144, 145, 146, 44, 147, 148, 149, 150, 151, 152, 153, 154, 155, 156, 157, 158, 159, 160, 161, 162, 163, 164, 165, 166, 167, 168, 169, 170, 171, 172, 173, 174, 175, 176, 177, 178, 179, 180, 181, 22, 182, 56, 183, 57, 184, 185, 186, 187, 188, 189, 190, 191, 192, 193, 194, 195, 196, 197, 198, 199, 200, 201, 202, 203, 204, 205, 206, 207, 208, 209, 210, 10, 11, 211, 212, 213, 214, 215, 216, 217, 218, 219, 220, 806, 807, 808, 809, 810, 811, 812, 813, 814, 837, 838, 839, 840, 841, 842, 843, 848, 849, 850, 851, 852, 853, 854, 855, 856, 857, 858, 859] (by decide +kernel) (by decide +kernel)
set_option maxRecDepth 20000 in
theorem gL_law_X9_roll : GoodIn wsL_law (wsV RL 13 RX9 yX9_roll wsX9_roll) := goodIn_app (goodIn_of _ (by decide +kernel)) ggL_law_X9_roll
set_option maxRecDepth 20000 in
theorem ggL_law_X10_roll : GoodIn wsL_law wsX10_roll := goodIn_r _ [224, 225, 226, 227, 75, 80, 76, 81, 77, 82, 78, 83, 79, 84, 228, 229, 230, 5, 231, 232, 89, 90, 233, 234, 235, 236, 237, 238, 239, 240, 241, 242, 243, 244, 245, 246, 247, 248, 249, 250, 251, 252, 253, 254, 255, 256, 257, 258, 259, 91, 260, 261, 262, 263, 264, 265, 266, 267, 268, 269, 815, 816, 817, 818, 819, 820, 821, 822, 823, 824, 825, 826, 827, 828, 829, 830, 831, 832, 833, 834, 835, 836] (by decide +kernel) (by decide +kernel)
set_option maxRecDepth 20000 in
theorem gL_law_X10_roll : GoodIn wsL_law (wsV RL 17 RX10 yX10_roll wsX10_roll) := goodIn_app (goodIn_of _ (by decide +kernel)) ggL_law_X10_roll
set_option maxRecDepth 20000 in
theorem ggL_law_X9_ofOne : GoodIn wsL_law wsX9_ofOne := goodIn_r _ [273, 23, 274, 275, 276, 22, 277, 57, 56, 278, 279, 280, 281, 200, 282, 211, 212, 213, 214, 283, 284, 285, 286, 287, 194, 288, 289, 290, 291, 197, 292, 293, 294, 295, 296, 297, 298, 806, 807, 808, 809, 810, 811, 812, 813, 814, 842, 843, 848, 849, 850, 851, 852, 853, 854, 855, 856, 857, 858, 859] (by decide +kernel) (by decide +kernel)
set_option maxRecDepth 20000 in
theorem gL_law_X9_ofOne : GoodIn wsL_law (wsV RL 18 RX9 yX9_ofOne wsX9_ofOne) := goodIn_app (goodIn_of _ (by decide +kernel)) ggL_law_X9_ofOne
set_option maxRecDepth 20000 in
theorem ggL_law_X10_ofOne : GoodIn wsL_law wsX10_ofOne := goodIn_r _ [302, 75, 76, 77, 78, 79, 303, 304, 305, 5, 306, 227, 237, 238, 239, 815, 816, 817, 818, 819, 820, 821, 822, 823, 824, 825, 826, 827, 828, 829, 830, 831, 832, 833, 834, 835, 836] (by decide +kernel) (by decide +kernel)
set_option maxRecDepth 20000 in
theorem gL_law_X10_ofOne : GoodIn wsL_law (wsV RL 22 RX10 yX10_ofOne wsX10_ofOne) := goodIn_app (goodIn_of _ (by decide +kernel)) ggL_law_X10_ofOne
set_option maxRecDepth 20000 in
theorem ggL_law_X9_lives : GoodIn wsL_law wsX9_lives := goodIn_r _ [310, 23, 274, 275, 276, 22, 277, 57, 56, 101, 102, 2, 103, 311, 312, 313, 314, 315, 316, 317, 200, 318, 213, 214, 319, 320, 321, 322, 323, 194, 324, 325, 326, 327, 211, 328, 329, 330, 331, 332, 333, 334, 197, 335, 336, 337, 338, 339, 340, 341, 342, 343, 806, 807, 808, 809, 810, 811, 812, 813, 814, 842, 843, 848, 849, 850, 851, 852, 853, 854, 855, 856, 857, 858, 859] (by decide +kernel) (by decide +kernel)
set_option maxRecDepth 20000 in
theorem gL_law_X9_lives : GoodIn wsL_law (wsV RL 23 RX9 yX9_lives wsX9_lives) := goodIn_app (goodIn_of _ (by decide +kernel)) ggL_law_X9_lives
set_option maxRecDepth 20000 in
theorem ggL_law_X10_lives : GoodIn wsL_law wsX10_lives := goodIn_r _ [347, 303, 304, 305, 5, 306, 227, 237, 238, 239, 348, 349, 350, 351, 352, 353, 354, 355, 356, 357, 358, 79, 75, 76, 78, 815, 816, 817, 818, 819, 820, 821, 822, 823, 824, 825, 826, 827, 828, 829, 830, 831, 832, 833, 834, 835, 836] (by decide +kernel) (by decide +kernel)
set_option maxRecDepth 20000 in
theorem gL_law_X10_lives : GoodIn wsL_law (wsV RL 27 RX10 yX10_lives wsX10_lives) := goodIn_app (goodIn_of _ (by decide +kernel)) ggL_law_X10_lives
set_option maxRecDepth 20000 in
theorem ggL_law_X9_word : GoodIn wsL_law wsX9_word := goodIn_r _ [362, 23, 101, 102, 2, 103, 311, 312, 313, 363, 364, 365, 22, 366, 57, 367, 275, 276, 277, 56, 368, 369, 370, 371, 200, 372, 212, 373, 374, 375, 376, 315, 316, 317, 318, 213, 214, 319, 320, 321, 322, 323, 194, 324, 325, 326, 327, 211, 328, 329, 330, 331, 332, 333, 334, 197, 335, 336, 337, 338, 339, 340, 341, 377, 343, 806, 807, 808, 809, 810, 811, 812, 813, 814, 842, 843, 848, 849, 850, 851, 852, 853, 854, 855, 856, 857, 858, 859] (by decide +kernel) (by decide +kernel)
set_option maxRecDepth 20000 in
theorem gL_law_X9_word : GoodIn wsL_law (wsV RL 28 RX9 yX9_word wsX9_word) := goodIn_app (goodIn_of _ (by decide +kernel)) ggL_law_X9_word
set_option maxRecDepth 20000 in
theorem ggL_law_X10_word : GoodIn wsL_law wsX10_word := goodIn_r _ [381, 382, 348, 349, 5, 350, 237, 238, 239, 351, 352, 353, 354, 383, 384, 385, 386, 227, 77, 355, 356, 357, 358, 79, 75, 76, 78, 815, 816, 817, 818, 819, 820, 821, 822, 823, 824, 825, 826, 827, 828, 829, 830, 831, 832, 833, 834, 835, 836] (by decide +kernel) (by decide +kernel)
set_option maxRecDepth 20000 in
theorem gL_law_X10_word : GoodIn wsL_law (wsV RL 31 RX10 yX10_word wsX10_word) := goodIn_app (goodIn_of _ (by decide +kernel)) ggL_law_X10_word
set_option maxRecDepth 20000 in
theorem ggL_law_X9_sayable : GoodIn wsL_law wsX9_sayable := goodIn_r _ [390, 23, 101, 102, 2, 103, 311, 312, 313, 363, 364, 365, 22, 366, 57, 367, 275, 276, 277, 56, 368, 369, 370, 371, 200, 372, 212, 373, 374, 375, 376, 315, 316, 317, 318, 213, 214, 319, 320, 321, 322, 323, 194, 324, 325, 326, 327, 211, 328, 329, 330, 331, 332, 333, 334, 197, 335, 336, 337, 338, 339, 340, 341, 377, 343, 806, 807, 808, 809, 810, 811, 812, 813, 814, 842, 843, 848, 849, 850, 851, 852, 853, 854, 855, 856, 857, 858, 859] (by decide +kernel) (by decide +kernel)
set_option maxRecDepth 20000 in
theorem gL_law_X9_sayable : GoodIn wsL_law (wsV RL 32 RX9 yX9_sayable wsX9_sayable) := goodIn_app (goodIn_of _ (by decide +kernel)) ggL_law_X9_sayable
set_option maxRecDepth 20000 in
theorem ggL_law_X10_sayable : GoodIn wsL_law wsX10_sayable := goodIn_r _ [394, 348, 349, 5, 350, 237, 238, 239, 351, 352, 353, 354, 383, 384, 385, 386, 227, 77, 355, 356, 357, 358, 79, 75, 76, 78, 815, 816, 817, 818, 819, 820, 821, 822, 823, 824, 825, 826, 827, 828, 829, 830, 831, 832, 833, 834, 835, 836] (by decide +kernel) (by decide +kernel)
set_option maxRecDepth 20000 in
theorem gL_law_X10_sayable : GoodIn wsL_law (wsV RL 35 RX10 yX10_sayable wsX10_sayable) := goodIn_app (goodIn_of _ (by decide +kernel)) ggL_law_X10_sayable
set_option maxRecDepth 20000 in
theorem ggL_law_X9_means : GoodIn wsL_law wsX9_means := goodIn_r _ [398, 311, 312, 2, 313, 399, 400, 401, 402, 23, 15, 97, 98, 99, 100, 39, 101, 102, 103, 104, 105, 106, 107, 108, 109, 110, 111, 112, 113, 114, 115, 116, 14, 117, 118, 119, 120, 121, 45, 122, 123, 124, 125, 126, 127, 128, 129, 130, 131, 132, 133, 134, 46, 403, 144, 145, 146, 44, 147, 148, 149, 150, 274, 275, 276, 22, 277, 57, 56, 404, 405, 406, 407, 314, 315, 316, 317, 200, 318, 213, 214, 319, 320, 321, 322, 323, 194, 324, 325, 326, 327, 211, 328, 329, 330, 331, 332, 333, 334, 197, 335, 336, 337, 338, 339, 340, 341, 342, 343, 408, 369, 370, 371, 372, 212, 373, 409, 375, 806, 807, 808, 809, 810, 811, 812, 813, 814, 837, 838, 839, 842, 843, 848, 849, 850, 851, 852, 853, 854, 855, 856, 857, 858, 859] (by decide +kernel) (by decide +kernel)
set_option maxRecDepth 20000 in
theorem gL_law_X9_means : GoodIn wsL_law (wsV RL 36 RX9 yX9_means wsX9_means) := goodIn_app (goodIn_of _ (by decide +kernel)) ggL_law_X9_means
