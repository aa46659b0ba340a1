set_option maxRecDepth 20000 in
theorem ggL_law_X9_back : GoodIn wsL_law wsX9_back := goodIn_r _ [559, 23, 31, 36, 101, 102, 2, 103, 430, 431, 432, 311, 312, 313, 497, 498, 499, 438, 439, 440, 22, 441, 57, 442, 443, 444, 30, 445, 65, 446, 367, 275, 276, 277, 56, 376, 315, 316, 317, 200, 318, 213, 214, 319, 320, 321, 322, 323, 194, 324, 325, 326, 327, 211, 328, 329, 330, 331, 332, 333, 334, 197, 335, 336, 337, 338, 339, 340, 341, 377, 343, 368, 369, 370, 371, 372, 212, 373, 374, 375, 447, 448, 449, 450, 451, 140, 141, 142, 560, 561, 562, 35, 563, 70, 564, 218, 219, 220, 565, 566, 567, 568, 69, 569, 570, 571, 572, 573, 574, 575, 576, 509, 510, 511, 512, 513, 514, 515, 516, 517, 518, 519, 453, 454, 455, 577, 578, 579, 580, 581, 582, 583, 584, 585, 806, 807, 808, 809, 810, 811, 812, 813, 814, 842, 843, 845, 848, 849, 850, 851, 852, 853, 854, 855, 856, 857, 858, 859, 846, 847] (by decide +kernel) (by decide +kernel)
set_option maxRecDepth 20000 in
theorem gL_law_X9_back : GoodIn wsL_law (wsV RL 67 RX9 yX9_back wsX9_back) := goodIn_app (goodIn_of _ (by decide +kernel)) ggL_law_X9_back
set_option maxRecDepth 20000 in
theorem ggL_law_X10_back : GoodIn wsL_law wsX10_back := goodIn_r _ [589, 590, 232, 469, 348, 349, 5, 350, 237, 238, 239, 351, 352, 353, 354, 524, 525, 526, 264, 591, 592, 593, 594, 227, 355, 356, 357, 358, 79, 75, 76, 78, 595, 596, 597, 598, 599, 600, 601, 86, 77, 87, 474, 475, 476, 477, 478, 479, 480, 481, 482, 483, 484, 815, 816, 817, 818, 819, 820, 821, 822, 823, 824, 825, 826, 827, 828, 829, 830, 831, 832, 833, 834, 835, 836] (by decide +kernel) (by decide +kernel)
set_option maxRecDepth 20000 in
theorem gL_law_X10_back : GoodIn wsL_law (wsV RL 71 RX10 yX10_back wsX10_back) := goodIn_app (goodIn_of _ (by decide +kernel)) ggL_law_X10_back
set_option maxRecDepth 20000 in
theorem ggL_law_X9_told : GoodIn wsL_law wsX9_told := goodIn_r _ [605, 606, 23, 31, 101, 102, 2, 103, 311, 312, 313, 497, 498, 499, 438, 439, 440, 22, 441, 57, 442, 443, 444, 30, 445, 65, 446, 367, 275, 276, 277, 56, 376, 315, 316, 317, 200, 318, 213, 214, 319, 320, 321, 322, 323, 194, 324, 325, 326, 327, 211, 328, 329, 330, 331, 332, 333, 334, 197, 335, 336, 337, 338, 339, 340, 341, 377, 343, 368, 369, 370, 371, 372, 212, 373, 374, 375, 447, 448, 449, 450, 451, 140, 141, 142, 531, 516, 517, 518, 519, 453, 454, 455, 607, 608, 609, 806, 807, 808, 809, 810, 811, 812, 813, 814, 842, 843, 845, 848, 849, 850, 851, 852, 853, 854, 855, 856, 857, 858, 859] (by decide +kernel) (by decide +kernel)
set_option maxRecDepth 20000 in
theorem gL_law_X9_told : GoodIn wsL_law (wsV RL 72 RX9 yX9_told wsX9_told) := goodIn_app (goodIn_of _ (by decide +kernel)) ggL_law_X9_told
set_option maxRecDepth 20000 in
theorem ggL_law_X10_told : GoodIn wsL_law wsX10_told := goodIn_r _ [613, 382, 348, 349, 5, 350, 237, 238, 239, 351, 352, 353, 354, 524, 525, 526, 264, 614, 615, 616, 617, 470, 471, 472, 473, 474, 475, 476, 477, 86, 227, 77, 355, 356, 357, 358, 79, 75, 76, 78, 478, 479, 480, 481, 87, 482, 483, 484, 552, 553, 554, 555, 618, 619, 620, 815, 816, 817, 818, 819, 820, 821, 822, 823, 824, 825, 826, 827, 828, 829, 830, 831, 832, 833, 834, 835, 836] (by decide +kernel) (by decide +kernel)
set_option maxRecDepth 20000 in
theorem gL_law_X10_told : GoodIn wsL_law (wsV RL 76 RX10 yX10_told wsX10_told) := goodIn_app (goodIn_of _ (by decide +kernel)) ggL_law_X10_told
set_option maxRecDepth 20000 in
theorem ggL_law_X9_sheet : GoodIn wsL_law wsX9_sheet := goodIn_r _ [624, 39, 15, 104, 105, 2, 106, 107, 108, 109, 123, 124, 125, 126, 625, 626, 627, 14, 628, 45, 46, 629, 630, 631, 632, 44, 147, 148, 149, 150, 131, 132, 133, 134, 118, 119, 120, 121, 633, 634, 635, 806, 807, 808, 809, 810, 811, 812, 813, 814, 837, 838, 839] (by decide +kernel) (by decide +kernel)
set_option maxRecDepth 20000 in
theorem gL_law_X9_sheet : GoodIn wsL_law (wsV RL 77 RX9 yX9_sheet wsX9_sheet) := goodIn_app (goodIn_of _ (by decide +kernel)) ggL_law_X9_sheet
set_option maxRecDepth 20000 in
theorem ggL_law_X10_sheet : GoodIn wsL_law wsX10_sheet := goodIn_r _ [639, 232, 89, 90, 91, 233, 234, 5, 235, 236, 237, 238, 239, 240, 241, 242, 243, 244, 245, 246, 247, 248, 815, 816, 817, 818, 819, 820, 821, 822, 823, 824, 825, 826, 827, 828, 829, 830, 831, 832, 833, 834, 835, 836] (by decide +kernel) (by decide +kernel)
set_option maxRecDepth 20000 in
theorem gL_law_X10_sheet : GoodIn wsL_law (wsV RL 80 RX10 yX10_sheet wsX10_sheet) := goodIn_app (goodIn_of _ (by decide +kernel)) ggL_law_X10_sheet
set_option maxRecDepth 20000 in
theorem ggL_law_X9_lose : GoodIn wsL_law wsX9_lose := goodIn_r _ [643, 15, 104, 105, 2, 106, 114, 115, 116, 14, 117, 118, 119, 120, 121, 45, 644, 645, 646, 647, 648, 626, 627, 628, 46, 629, 630, 631, 632, 44, 147, 148, 149, 150, 131, 132, 133, 134, 633, 634, 635, 806, 807, 808, 809, 810, 811, 812, 813, 814, 837, 838, 839] (by decide +kernel) (by decide +kernel)
set_option maxRecDepth 20000 in
theorem gL_law_X9_lose : GoodIn wsL_law (wsV RL 81 RX9 yX9_lose wsX9_lose) := goodIn_app (goodIn_of _ (by decide +kernel)) ggL_law_X9_lose
set_option maxRecDepth 20000 in
theorem ggL_law_X10_lose : GoodIn wsL_law wsX10_lose := goodIn_r _ [652, 89, 233, 234, 5, 235, 236, 237, 238, 239, 815, 816, 817, 818, 819, 820, 821, 822, 823, 824, 825, 826, 827, 828, 829, 830, 831, 832, 833, 834, 835, 836] (by decide +kernel) (by decide +kernel)
set_option maxRecDepth 20000 in
theorem gL_law_X10_lose : GoodIn wsL_law (wsV RL 85 RX10 yX10_lose wsX10_lose) := goodIn_app (goodIn_of _ (by decide +kernel)) ggL_law_X10_lose
set_option maxRecDepth 20000 in
theorem ggL_law_X9_put : GoodIn wsL_law wsX9_put := goodIn_r _ [656, 39, 15, 104, 105, 2, 106, 114, 115, 116, 14, 117, 118, 119, 120, 121, 45, 123, 124, 125, 126, 657, 658, 659, 660, 147, 148, 149, 150, 44, 131, 132, 133, 134, 46, 661, 630, 631, 632, 633, 634, 635, 806, 807, 808, 809, 810, 811, 812, 813, 814, 837, 838, 839] (by decide +kernel) (by decide +kernel)
set_option maxRecDepth 20000 in
theorem gL_law_X9_put : GoodIn wsL_law (wsV RL 86 RX9 yX9_put wsX9_put) := goodIn_app (goodIn_of _ (by decide +kernel)) ggL_law_X9_put
set_option maxRecDepth 20000 in
theorem ggL_law_X10_put : GoodIn wsL_law wsX10_put := goodIn_r _ [665, 91, 90, 233, 234, 5, 235, 236, 237, 238, 239, 240, 241, 242, 243, 244, 666, 667, 668, 669, 89, 245, 246, 247, 248, 815, 816, 817, 818, 819, 820, 821, 822, 823, 824, 825, 826, 827, 828, 829, 830, 831, 832, 833, 834, 835, 836] (by decide +kernel) (by decide +kernel)
set_option maxRecDepth 20000 in
theorem gL_law_X10_put : GoodIn wsL_law (wsV RL 89 RX10 yX10_put wsX10_put) := goodIn_app (goodIn_of _ (by decide +kernel)) ggL_law_X10_put
set_option maxRecDepth 20000 in
theorem ggL_law_X9_cell : GoodIn wsL_law wsX9_cell := goodIn_r _ [673, 39, 606, 15, 104, 105, 2, 106, 107, 108, 109, 110, 111, 112, 113, 114, 115, 116, 14, 117, 118, 119, 120, 121, 45, 122, 657, 658, 659, 660, 147, 148, 149, 150, 44, 131, 132, 133, 134, 46, 403, 144, 145, 146, 806, 807, 808, 809, 810, 811, 812, 813, 814, 837, 838, 839] (by decide +kernel) (by decide +kernel)
set_option maxRecDepth 20000 in
theorem gL_law_X9_cell : GoodIn wsL_law (wsV RL 90 RX9 yX9_cell wsX9_cell) := goodIn_app (goodIn_of _ (by decide +kernel)) ggL_law_X9_cell
set_option maxRecDepth 20000 in
theorem ggL_law_X10_cell : GoodIn wsL_law wsX10_cell := goodIn_r _ [677, 244, 232, 89, 90, 91, 233, 234, 5, 235, 236, 237, 238, 239, 614, 615, 616, 617, 678, 679, 680, 681, 666, 667, 668, 669, 815, 816, 817, 818, 819, 820, 821, 822, 823, 824, 825, 826, 827, 828, 829, 830, 831, 832, 833, 834, 835, 836] (by decide +kernel) (by decide +kernel)
set_option maxRecDepth 20000 in
theorem gL_law_X10_cell : GoodIn wsL_law (wsV RL 94 RX10 yX10_cell wsX10_cell) := goodIn_app (goodIn_of _ (by decide +kernel)) ggL_law_X10_cell
set_option maxRecDepth 20000 in
theorem ggL_law_X9_copy : GoodIn wsL_law wsX9_copy := goodIn_r _ [685, 39, 15, 104, 105, 2, 106, 114, 115, 116, 14, 117, 118, 119, 120, 121, 45, 123, 124, 125, 126, 122, 127, 128, 129, 130, 131, 132, 133, 134, 46, 686, 687, 688, 689, 44, 690, 691, 692, 693, 694, 806, 807, 808, 809, 810, 811, 812, 813, 814, 837, 838, 839] (by decide +kernel) (by decide +kernel)
set_option maxRecDepth 20000 in
theorem gL_law_X9_copy : GoodIn wsL_law (wsV RL 95 RX9 yX9_copy wsX9_copy) := goodIn_app (goodIn_of _ (by decide +kernel)) ggL_law_X9_copy
