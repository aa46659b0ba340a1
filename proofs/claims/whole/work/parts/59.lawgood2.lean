set_option maxRecDepth 20000 in
theorem ggL_law_X9_back : GoodIn wsL_law wsX9_back := goodIn_r _ [555, 23, 31, 36, 100, 101, 2, 102, 429, 430, 431, 310, 311, 312, 496, 497, 498, 437, 438, 439, 22, 440, 56, 441, 442, 443, 30, 444, 64, 445, 366, 274, 275, 276, 55, 375, 314, 315, 316, 199, 317, 212, 213, 318, 319, 320, 321, 322, 193, 323, 324, 325, 326, 210, 327, 328, 329, 330, 331, 332, 333, 196, 334, 335, 336, 337, 338, 339, 340, 376, 342, 367, 368, 369, 370, 371, 211, 372, 373, 374, 446, 447, 448, 449, 450, 139, 140, 141, 556, 557, 558, 35, 559, 69, 560, 217, 218, 219, 561, 562, 563, 564, 68, 565, 566, 567, 568, 569, 570, 571, 572, 573, 574, 575, 576, 577, 578, 511, 512, 513, 514, 515, 452, 453, 454, 579, 580, 581, 582, 583, 584, 585, 586, 587, 808, 809, 810, 811, 812, 813, 814, 815, 843, 844, 846, 849, 850, 851, 852, 853, 854, 855, 856, 857, 858, 859, 860, 847, 848] (by decide +kernel) (by decide +kernel)
set_option maxRecDepth 20000 in
theorem gL_law_X9_back : GoodIn wsL_law (wsV RL 67 RX9 yX9_back wsX9_back) := goodIn_app (goodIn_of _ (by decide +kernel)) ggL_law_X9_back
set_option maxRecDepth 20000 in
theorem ggL_law_X10_back : GoodIn wsL_law wsX10_back := goodIn_r _ [591, 592, 231, 468, 347, 348, 5, 349, 236, 237, 238, 350, 351, 352, 353, 520, 521, 522, 263, 593, 594, 595, 596, 226, 354, 355, 356, 357, 78, 74, 75, 77, 597, 598, 599, 600, 601, 602, 603, 85, 76, 86, 473, 474, 475, 476, 477, 478, 479, 480, 481, 482, 483, 816, 817, 818, 819, 820, 821, 822, 823, 824, 825, 826, 827, 828, 829, 830, 831, 832, 833, 834, 835, 836, 837] (by decide +kernel) (by decide +kernel)
set_option maxRecDepth 20000 in
theorem gL_law_X10_back : GoodIn wsL_law (wsV RL 71 RX10 yX10_back wsX10_back) := goodIn_app (goodIn_of _ (by decide +kernel)) ggL_law_X10_back
set_option maxRecDepth 20000 in
theorem ggL_law_X9_told : GoodIn wsL_law wsX9_told := goodIn_r _ [607, 608, 23, 31, 100, 101, 2, 102, 310, 311, 312, 496, 497, 498, 437, 438, 439, 22, 440, 56, 441, 442, 443, 30, 444, 64, 445, 366, 274, 275, 276, 55, 375, 314, 315, 316, 199, 317, 212, 213, 318, 319, 320, 321, 322, 193, 323, 324, 325, 326, 210, 327, 328, 329, 330, 331, 332, 333, 196, 334, 335, 336, 337, 338, 339, 340, 376, 342, 367, 368, 369, 370, 371, 211, 372, 373, 374, 446, 447, 448, 449, 450, 139, 140, 141, 527, 512, 513, 514, 515, 452, 453, 454, 609, 610, 611, 808, 809, 810, 811, 812, 813, 814, 815, 843, 844, 846, 849, 850, 851, 852, 853, 854, 855, 856, 857, 858, 859, 860] (by decide +kernel) (by decide +kernel)
set_option maxRecDepth 20000 in
theorem gL_law_X9_told : GoodIn wsL_law (wsV RL 72 RX9 yX9_told wsX9_told) := goodIn_app (goodIn_of _ (by decide +kernel)) ggL_law_X9_told
set_option maxRecDepth 20000 in
theorem ggL_law_X10_told : GoodIn wsL_law wsX10_told := goodIn_r _ [615, 381, 347, 348, 5, 349, 236, 237, 238, 350, 351, 352, 353, 520, 521, 522, 263, 616, 617, 618, 619, 469, 470, 471, 472, 473, 474, 475, 476, 85, 226, 76, 354, 355, 356, 357, 78, 74, 75, 77, 477, 478, 479, 480, 86, 481, 482, 483, 548, 549, 550, 551, 620, 621, 622, 816, 817, 818, 819, 820, 821, 822, 823, 824, 825, 826, 827, 828, 829, 830, 831, 832, 833, 834, 835, 836, 837] (by decide +kernel) (by decide +kernel)
set_option maxRecDepth 20000 in
theorem gL_law_X10_told : GoodIn wsL_law (wsV RL 76 RX10 yX10_told wsX10_told) := goodIn_app (goodIn_of _ (by decide +kernel)) ggL_law_X10_told
set_option maxRecDepth 20000 in
theorem ggL_law_X9_sheet : GoodIn wsL_law wsX9_sheet := goodIn_r _ [626, 37, 15, 103, 104, 2, 105, 106, 107, 108, 122, 123, 124, 125, 627, 628, 629, 14, 630, 44, 45, 631, 632, 633, 634, 43, 146, 147, 148, 149, 130, 131, 132, 133, 117, 118, 119, 120, 635, 636, 637, 808, 809, 810, 811, 812, 813, 814, 815, 838, 839, 840] (by decide +kernel) (by decide +kernel)
set_option maxRecDepth 20000 in
theorem gL_law_X9_sheet : GoodIn wsL_law (wsV RL 77 RX9 yX9_sheet wsX9_sheet) := goodIn_app (goodIn_of _ (by decide +kernel)) ggL_law_X9_sheet
set_option maxRecDepth 20000 in
theorem ggL_law_X10_sheet : GoodIn wsL_law wsX10_sheet := goodIn_r _ [641, 231, 88, 89, 90, 232, 233, 5, 234, 235, 236, 237, 238, 239, 240, 241, 242, 243, 244, 245, 246, 247, 816, 817, 818, 819, 820, 821, 822, 823, 824, 825, 826, 827, 828, 829, 830, 831, 832, 833, 834, 835, 836, 837] (by decide +kernel) (by decide +kernel)
set_option maxRecDepth 20000 in
theorem gL_law_X10_sheet : GoodIn wsL_law (wsV RL 80 RX10 yX10_sheet wsX10_sheet) := goodIn_app (goodIn_of _ (by decide +kernel)) ggL_law_X10_sheet
set_option maxRecDepth 20000 in
theorem ggL_law_X9_lose : GoodIn wsL_law wsX9_lose := goodIn_r _ [645, 15, 103, 104, 2, 105, 113, 114, 115, 14, 116, 117, 118, 119, 120, 44, 646, 647, 648, 649, 650, 628, 629, 630, 45, 631, 632, 633, 634, 43, 146, 147, 148, 149, 130, 131, 132, 133, 635, 636, 637, 808, 809, 810, 811, 812, 813, 814, 815, 838, 839, 840] (by decide +kernel) (by decide +kernel)
set_option maxRecDepth 20000 in
theorem gL_law_X9_lose : GoodIn wsL_law (wsV RL 81 RX9 yX9_lose wsX9_lose) := goodIn_app (goodIn_of _ (by decide +kernel)) ggL_law_X9_lose
set_option maxRecDepth 20000 in
theorem ggL_law_X10_lose : GoodIn wsL_law wsX10_lose := goodIn_r _ [654, 88, 232, 233, 5, 234, 235, 236, 237, 238, 816, 817, 818, 819, 820, 821, 822, 823, 824, 825, 826, 827, 828, 829, 830, 831, 832, 833, 834, 835, 836, 837] (by decide +kernel) (by decide +kernel)
set_option maxRecDepth 20000 in
theorem gL_law_X10_lose : GoodIn wsL_law (wsV RL 85 RX10 yX10_lose wsX10_lose) := goodIn_app (goodIn_of _ (by decide +kernel)) ggL_law_X10_lose
set_option maxRecDepth 20000 in
theorem ggL_law_X9_put : GoodIn wsL_law wsX9_put := goodIn_r _ [658, 37, 15, 103, 104, 2, 105, 113, 114, 115, 14, 116, 117, 118, 119, 120, 44, 122, 123, 124, 125, 659, 660, 661, 662, 146, 147, 148, 149, 43, 130, 131, 132, 133, 45, 663, 632, 633, 634, 635, 636, 637, 808, 809, 810, 811, 812, 813, 814, 815, 838, 839, 840] (by decide +kernel) (by decide +kernel)
set_option maxRecDepth 20000 in
theorem gL_law_X9_put : GoodIn wsL_law (wsV RL 86 RX9 yX9_put wsX9_put) := goodIn_app (goodIn_of _ (by decide +kernel)) ggL_law_X9_put
set_option maxRecDepth 20000 in
theorem ggL_law_X10_put : GoodIn wsL_law wsX10_put := goodIn_r _ [667, 90, 89, 232, 233, 5, 234, 235, 236, 237, 238, 239, 240, 241, 242, 243, 668, 669, 670, 671, 88, 244, 245, 246, 247, 816, 817, 818, 819, 820, 821, 822, 823, 824, 825, 826, 827, 828, 829, 830, 831, 832, 833, 834, 835, 836, 837] (by decide +kernel) (by decide +kernel)
set_option maxRecDepth 20000 in
theorem gL_law_X10_put : GoodIn wsL_law (wsV RL 89 RX10 yX10_put wsX10_put) := goodIn_app (goodIn_of _ (by decide +kernel)) ggL_law_X10_put
set_option maxRecDepth 20000 in
theorem ggL_law_X9_cell : GoodIn wsL_law wsX9_cell := goodIn_r _ [675, 37, 608, 15, 103, 104, 2, 105, 106, 107, 108, 109, 110, 111, 112, 113, 114, 115, 14, 116, 117, 118, 119, 120, 44, 121, 659, 660, 661, 662, 146, 147, 148, 149, 43, 130, 131, 132, 133, 45, 402, 143, 144, 145, 808, 809, 810, 811, 812, 813, 814, 815, 838, 839, 840] (by decide +kernel) (by decide +kernel)
set_option maxRecDepth 20000 in
theorem gL_law_X9_cell : GoodIn wsL_law (wsV RL 90 RX9 yX9_cell wsX9_cell) := goodIn_app (goodIn_of _ (by decide +kernel)) ggL_law_X9_cell
set_option maxRecDepth 20000 in
theorem ggL_law_X10_cell : GoodIn wsL_law wsX10_cell := goodIn_r _ [679, 243, 231, 88, 89, 90, 232, 233, 5, 234, 235, 236, 237, 238, 616, 617, 618, 619, 680, 681, 682, 683, 668, 669, 670, 671, 816, 817, 818, 819, 820, 821, 822, 823, 824, 825, 826, 827, 828, 829, 830, 831, 832, 833, 834, 835, 836, 837] (by decide +kernel) (by decide +kernel)
set_option maxRecDepth 20000 in
theorem gL_law_X10_cell : GoodIn wsL_law (wsV RL 94 RX10 yX10_cell wsX10_cell) := goodIn_app (goodIn_of _ (by decide +kernel)) ggL_law_X10_cell
set_option maxRecDepth 20000 in
theorem ggL_law_X9_copy : GoodIn wsL_law wsX9_copy := goodIn_r _ [687, 37, 15, 103, 104, 2, 105, 113, 114, 115, 14, 116, 117, 118, 119, 120, 44, 122, 123, 124, 125, 121, 126, 127, 128, 129, 130, 131, 132, 133, 45, 688, 689, 690, 691, 43, 692, 693, 694, 695, 696, 808, 809, 810, 811, 812, 813, 814, 815, 838, 839, 840] (by decide +kernel) (by decide +kernel)
set_option maxRecDepth 20000 in
theorem gL_law_X9_copy : GoodIn wsL_law (wsV RL 95 RX9 yX9_copy wsX9_copy) := goodIn_app (goodIn_of _ (by decide +kernel)) ggL_law_X9_copy
