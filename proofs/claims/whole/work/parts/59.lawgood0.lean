set_option maxRecDepth 20000 in
theorem ggL_law_X9_init : GoodIn wsL_law wsX9_init := goodIn_r _ [8, 9, 10, 11, 12, 13, 14, 15, 16, 17, 18, 19, 20, 21, 22, 23, 24, 25, 26, 27, 28, 29, 30, 31, 32, 33, 34, 35, 36, 37, 38, 39, 40, 41, 42, 43, 44, 45, 46, 47, 48, 49, 50, 51, 52, 53, 54, 55, 56, 57, 58, 59, 60, 61, 62, 63, 64, 65, 66, 67, 68, 69, 838, 839, 840, 808, 809, 810, 811, 812, 813, 814, 815, 841, 842, 843, 844, 845, 846, 847, 848] (by decide +kernel) (by decide +kernel)
set_option maxRecDepth 20000 in
theorem gL_law_X9_init : GoodIn wsL_law (wsX9_init) := ggL_law_X9_init
set_option maxRecDepth 20000 in
theorem ggL_law_X10_init : GoodIn wsL_law wsX10_init := goodIn_r _ [72, 73, 10, 11, 42, 74, 75, 76, 77, 78, 79, 80, 81, 82, 83, 84, 85, 86, 87, 88, 89, 90, 91, 816, 817, 818, 819, 820, 821, 822, 823, 824, 825, 826, 827, 828, 829, 830, 831, 832, 833, 834, 835, 836, 837] (by decide +kernel) (by decide +kernel)
set_option maxRecDepth 20000 in
theorem gL_law_X10_init : GoodIn wsL_law (wsX10_init) := ggL_law_X10_init
set_option maxRecDepth 20000 in
theorem ggL_law_X9_roll : GoodIn wsL_law wsX9_roll := goodIn_r _ [95, 19, 15, 23, 96, 97, 98, 2, 99, 37, 100, 101, 102, 103, 104, 105, 106, 107, 108, 109, 110, 111, 112, 113, 114, 115, 14, 116, 117, 118, 119, 120, 44, 121, 122, 123, 124, 125, 126, 127, 128, 129, 130, 131, 132, 133, 45, 134, 135, 136, 18, 137, 49, 138, 139, 140, 141, 50, 142, 143, 144, 145, 43, 146, 147, 148, 149, 150, 151, 152, 153, 154, 155, 156, 157, 158, 159, 160, 161, 162, 163, 164, 165, 166, 167, 168, 169, 170, 171, 172, 173, 174, 175, 176, 177, 178, 179, 180, 22, 181, 55, 182, 56, 183, 184, 185, 186, 187, 188, 189, 190, 191, 192, 193, 194, 195, 196, 197, 198, 199, 200, 201, 202, 203, 204, 205, 206, 207, 208, 209, 10, 11, 210, 211, 212, 213, 214, 215, 216, 217, 218, 219, 808, 809, 810, 811, 812, 813, 814, 815, 838, 839, 840, 841, 842, 843, 844, 849, 850, 851, 852, 853, 854, 855, 856, 857, 858, 859, 860] (by decide +kernel) (by decide +kernel)
set_option maxRecDepth 20000 in
theorem gL_law_X9_roll : GoodIn wsL_law (wsV RL 13 RX9 yX9_roll wsX9_roll) := goodIn_app (goodIn_of _ (by decide +kernel)) ggL_law_X9_roll
set_option maxRecDepth 20000 in
theorem ggL_law_X10_roll : GoodIn wsL_law wsX10_roll := goodIn_r _ [223, 224, 225, 226, 74, 79, 75, 80, 76, 81, 77, 82, 78, 83, 227, 228, 229, 5, 230, 231, 88, 89, 232, 233, 234, 235, 236, 237, 238, 239, 240, 241, 242, 243, 244, 245, 246, 247, 248, 249, 250, 251, 252, 253, 254, 255, 256, 257, 258, 90, 259, 260, 261, 262, 263, 264, 265, 266, 267, 268, 816, 817, 818, 819, 820, 821, 822, 823, 824, 825, 826, 827, 828, 829, 830, 831, 832, 833, 834, 835, 836, 837] (by decide +kernel) (by decide +kernel)
set_option maxRecDepth 20000 in
theorem gL_law_X10_roll : GoodIn wsL_law (wsV RL 17 RX10 yX10_roll wsX10_roll) := goodIn_app (goodIn_of _ (by decide +kernel)) ggL_law_X10_roll
set_option maxRecDepth 20000 in
theorem ggL_law_X9_ofOne : GoodIn wsL_law wsX9_ofOne := goodIn_r _ [272, 23, 273, 274, 275, 22, 276, 56, 55, 277, 278, 279, 280, 199, 281, 210, 211, 212, 213, 282, 283, 284, 285, 286, 193, 287, 288, 289, 290, 196, 291, 292, 293, 294, 295, 296, 297, 808, 809, 810, 811, 812, 813, 814, 815, 843, 844, 849, 850, 851, 852, 853, 854, 855, 856, 857, 858, 859, 860] (by decide +kernel) (by decide +kernel)
set_option maxRecDepth 20000 in
theorem gL_law_X9_ofOne : GoodIn wsL_law (wsV RL 18 RX9 yX9_ofOne wsX9_ofOne) := goodIn_app (goodIn_of _ (by decide +kernel)) ggL_law_X9_ofOne
set_option maxRecDepth 20000 in
theorem ggL_law_X10_ofOne : GoodIn wsL_law wsX10_ofOne := goodIn_r _ [301, 74, 75, 76, 77, 78, 302, 303, 304, 5, 305, 226, 236, 237, 238, 816, 817, 818, 819, 820, 821, 822, 823, 824, 825, 826, 827, 828, 829, 830, 831, 832, 833, 834, 835, 836, 837] (by decide +kernel) (by decide +kernel)
set_option maxRecDepth 20000 in
theorem gL_law_X10_ofOne : GoodIn wsL_law (wsV RL 22 RX10 yX10_ofOne wsX10_ofOne) := goodIn_app (goodIn_of _ (by decide +kernel)) ggL_law_X10_ofOne
set_option maxRecDepth 20000 in
theorem ggL_law_X9_lives : GoodIn wsL_law wsX9_lives := goodIn_r _ [309, 23, 273, 274, 275, 22, 276, 56, 55, 100, 101, 2, 102, 310, 311, 312, 313, 314, 315, 316, 199, 317, 212, 213, 318, 319, 320, 321, 322, 193, 323, 324, 325, 326, 210, 327, 328, 329, 330, 331, 332, 333, 196, 334, 335, 336, 337, 338, 339, 340, 341, 342, 808, 809, 810, 811, 812, 813, 814, 815, 843, 844, 849, 850, 851, 852, 853, 854, 855, 856, 857, 858, 859, 860] (by decide +kernel) (by decide +kernel)
set_option maxRecDepth 20000 in
theorem gL_law_X9_lives : GoodIn wsL_law (wsV RL 23 RX9 yX9_lives wsX9_lives) := goodIn_app (goodIn_of _ (by decide +kernel)) ggL_law_X9_lives
set_option maxRecDepth 20000 in
theorem ggL_law_X10_lives : GoodIn wsL_law wsX10_lives := goodIn_r _ [346, 302, 303, 304, 5, 305, 226, 236, 237, 238, 347, 348, 349, 350, 351, 352, 353, 354, 355, 356, 357, 78, 74, 75, 77, 816, 817, 818, 819, 820, 821, 822, 823, 824, 825, 826, 827, 828, 829, 830, 831, 832, 833, 834, 835, 836, 837] (by decide +kernel) (by decide +kernel)
set_option maxRecDepth 20000 in
theorem gL_law_X10_lives : GoodIn wsL_law (wsV RL 27 RX10 yX10_lives wsX10_lives) := goodIn_app (goodIn_of _ (by decide +kernel)) ggL_law_X10_lives
set_option maxRecDepth 20000 in
theorem ggL_law_X9_word : GoodIn wsL_law wsX9_word := goodIn_r _ [361, 23, 100, 101, 2, 102, 310, 311, 312, 362, 363, 364, 22, 365, 56, 366, 274, 275, 276, 55, 367, 368, 369, 370, 199, 371, 211, 372, 373, 374, 375, 314, 315, 316, 317, 212, 213, 318, 319, 320, 321, 322, 193, 323, 324, 325, 326, 210, 327, 328, 329, 330, 331, 332, 333, 196, 334, 335, 336, 337, 338, 339, 340, 376, 342, 808, 809, 810, 811, 812, 813, 814, 815, 843, 844, 849, 850, 851, 852, 853, 854, 855, 856, 857, 858, 859, 860] (by decide +kernel) (by decide +kernel)
set_option maxRecDepth 20000 in
theorem gL_law_X9_word : GoodIn wsL_law (wsV RL 28 RX9 yX9_word wsX9_word) := goodIn_app (goodIn_of _ (by decide +kernel)) ggL_law_X9_word
set_option maxRecDepth 20000 in
theorem ggL_law_X10_word : GoodIn wsL_law wsX10_word := goodIn_r _ [380, 381, 347, 348, 5, 349, 236, 237, 238, 350, 351, 352, 353, 382, 383, 384, 385, 226, 76, 354, 355, 356, 357, 78, 74, 75, 77, 816, 817, 818, 819, 820, 821, 822, 823, 824, 825, 826, 827, 828, 829, 830, 831, 832, 833, 834, 835, 836, 837] (by decide +kernel) (by decide +kernel)
set_option maxRecDepth 20000 in
theorem gL_law_X10_word : GoodIn wsL_law (wsV RL 31 RX10 yX10_word wsX10_word) := goodIn_app (goodIn_of _ (by decide +kernel)) ggL_law_X10_word
set_option maxRecDepth 20000 in
theorem ggL_law_X9_sayable : GoodIn wsL_law wsX9_sayable := goodIn_r _ [389, 23, 100, 101, 2, 102, 310, 311, 312, 362, 363, 364, 22, 365, 56, 366, 274, 275, 276, 55, 367, 368, 369, 370, 199, 371, 211, 372, 373, 374, 375, 314, 315, 316, 317, 212, 213, 318, 319, 320, 321, 322, 193, 323, 324, 325, 326, 210, 327, 328, 329, 330, 331, 332, 333, 196, 334, 335, 336, 337, 338, 339, 340, 376, 342, 808, 809, 810, 811, 812, 813, 814, 815, 843, 844, 849, 850, 851, 852, 853, 854, 855, 856, 857, 858, 859, 860] (by decide +kernel) (by decide +kernel)
set_option maxRecDepth 20000 in
theorem gL_law_X9_sayable : GoodIn wsL_law (wsV RL 32 RX9 yX9_sayable wsX9_sayable) := goodIn_app (goodIn_of _ (by decide +kernel)) ggL_law_X9_sayable
set_option maxRecDepth 20000 in
theorem ggL_law_X10_sayable : GoodIn wsL_law wsX10_sayable := goodIn_r _ [393, 347, 348, 5, 349, 236, 237, 238, 350, 351, 352, 353, 382, 383, 384, 385, 226, 76, 354, 355, 356, 357, 78, 74, 75, 77, 816, 817, 818, 819, 820, 821, 822, 823, 824, 825, 826, 827, 828, 829, 830, 831, 832, 833, 834, 835, 836, 837] (by decide +kernel) (by decide +kernel)
set_option maxRecDepth 20000 in
theorem gL_law_X10_sayable : GoodIn wsL_law (wsV RL 35 RX10 yX10_sayable wsX10_sayable) := goodIn_app (goodIn_of _ (by decide +kernel)) ggL_law_X10_sayable
set_option maxRecDepth 20000 in
theorem ggL_law_X9_means : GoodIn wsL_law wsX9_means := goodIn_r _ [397, 310, 311, 2, 312, 398, 399, 400, 401, 23, 15, 96, 97, 98, 99, 37, 100, 101, 102, 103, 104, 105, 106, 107, 108, 109, 110, 111, 112, 113, 114, 115, 14, 116, 117, 118, 119, 120, 44, 121, 122, 123, 124, 125, 126, 127, 128, 129, 130, 131, 132, 133, 45, 402, 143, 144, 145, 43, 146, 147, 148, 149, 273, 274, 275, 22, 276, 56, 55, 403, 404, 405, 406, 313, 314, 315, 316, 199, 317, 212, 213, 318, 319, 320, 321, 322, 193, 323, 324, 325, 326, 210, 327, 328, 329, 330, 331, 332, 333, 196, 334, 335, 336, 337, 338, 339, 340, 341, 342, 407, 368, 369, 370, 371, 211, 372, 408, 374, 808, 809, 810, 811, 812, 813, 814, 815, 838, 839, 840, 843, 844, 849, 850, 851, 852, 853, 854, 855, 856, 857, 858, 859, 860] (by decide +kernel) (by decide +kernel)
set_option maxRecDepth 20000 in
theorem gL_law_X9_means : GoodIn wsL_law (wsV RL 36 RX9 yX9_means wsX9_means) := goodIn_app (goodIn_of _ (by decide +kernel)) ggL_law_X9_means
