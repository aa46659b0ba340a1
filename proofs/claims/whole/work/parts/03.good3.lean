set_option maxRecDepth 20000 in
theorem ggX10_readsOne_X10_in : GoodIn wsX10_readsOne wsX10_in := goodIn_r _ [17] (by decide +kernel) (by decide +kernel)
set_option maxRecDepth 20000 in
theorem gX10_readsOne_X10_in : GoodIn wsX10_readsOne (va_wsS RX10 82 yX10_in wsX10_in) := goodIn_app (goodIn_of _ (by decide +kernel)) ggX10_readsOne_X10_in
set_option maxRecDepth 20000 in
theorem ggX10_readsOne_X10_two : GoodIn wsX10_readsOne wsX10_two := goodIn_r _ [21, 2, 22, 9, 10, 11, 12, 13, 3, 14, 15, 16, 17, 23, 24, 25, 26, 27, 28, 29, 30, 31, 32, 33, 34, 35, 36, 37, 38, 39, 40, 41, 42, 43, 44] (by decide +kernel) (by decide +kernel)
set_option maxRecDepth 20000 in
theorem gX10_readsOne_X10_two : GoodIn wsX10_readsOne (wsV RX10 112 RX10 yX10_two wsX10_two) := goodIn_app (goodIn_of _ (by decide +kernel)) ggX10_readsOne_X10_two
set_option maxRecDepth 20000 in
theorem ggX10_readsRoll_X10_readsOne : GoodIn wsX10_readsRoll wsX10_readsOne := goodIn_r _ [7, 2, 1, 8, 9, 10, 11, 12, 13, 14, 15, 16, 6, 17, 18, 19, 20, 21, 22, 23, 24, 25, 26, 27, 28, 29, 30, 31, 32, 33, 34, 35, 36, 37, 38, 39, 40, 41, 42, 43, 44, 45, 46, 47, 48] (by decide +kernel) (by decide +kernel)
set_option maxRecDepth 20000 in
theorem gX10_readsRoll_X10_readsOne : GoodIn wsX10_readsRoll (wsV RX10 116 RX10 yX10_readsOne wsX10_readsOne) := goodIn_app (goodIn_of _ (by decide +kernel)) ggX10_readsRoll_X10_readsOne
set_option maxRecDepth 20000 in
theorem ggX10_roll_X10_barred : GoodIn wsX10_roll wsX10_barred := goodIn_r _ [18, 19, 20, 21, 22, 23, 17, 24, 25, 26, 27, 28, 29, 30, 31, 32, 33, 34, 35, 36, 37, 38, 39, 40, 60, 61, 62, 63, 64, 65, 66, 67, 68, 69, 70, 71, 72, 73, 74, 75, 76, 77, 78, 79, 80, 81] (by decide +kernel) (by decide +kernel)
set_option maxRecDepth 20000 in
theorem gX10_roll_X10_barred : GoodIn wsX10_roll (wsV RX10 120 RX10 yX10_barred wsX10_barred) := goodIn_app (goodIn_of _ (by decide +kernel)) ggX10_roll_X10_barred
set_option maxRecDepth 20000 in
theorem ggX10_roll_X10_readsRoll : GoodIn wsX10_roll wsX10_readsRoll := goodIn_r _ [44, 1, 2, 45, 46, 47, 17, 48, 49, 5, 7, 9, 11, 13, 50, 51, 52, 53, 54, 26, 27, 28, 55, 56, 57, 58, 59, 60, 61, 62, 63, 64, 65, 66, 67, 68, 69, 70, 71, 72, 73, 74, 75, 76, 77, 78, 79, 80, 81] (by decide +kernel) (by decide +kernel)
set_option maxRecDepth 20000 in
theorem gX10_roll_X10_readsRoll : GoodIn wsX10_roll (wsV RX10 124 RX10 yX10_readsRoll wsX10_readsRoll) := goodIn_app (goodIn_of _ (by decide +kernel)) ggX10_roll_X10_readsRoll
set_option maxRecDepth 20000 in
theorem ggX10_roll_X10_refused : GoodIn wsX10_roll wsX10_refused := goodIn_r _ [32, 33, 60, 61, 62, 63, 64, 65, 66, 67, 68, 69, 70, 71, 72, 73, 74, 75, 76, 77, 78, 79, 80, 81] (by decide +kernel) (by decide +kernel)
set_option maxRecDepth 20000 in
theorem gX10_roll_X10_refused : GoodIn wsX10_roll (wsV RX10 76 RX10 yX10_refused wsX10_refused) := goodIn_app (goodIn_of _ (by decide +kernel)) ggX10_roll_X10_refused
set_option maxRecDepth 20000 in
theorem ggX10_ofOne_X10_noOne : GoodIn wsX10_ofOne wsX10_noOne := goodIn_r _ [10, 11, 12, 13, 9, 14, 15, 16, 17, 18, 19, 20, 21, 22, 23, 24, 25, 26, 27, 28, 29, 30, 31, 32, 33, 34, 35, 36] (by decide +kernel) (by decide +kernel)
set_option maxRecDepth 20000 in
theorem gX10_ofOne_X10_noOne : GoodIn wsX10_ofOne (wsV RX10 127 RX10 yX10_noOne wsX10_noOne) := goodIn_app (goodIn_of _ (by decide +kernel)) ggX10_ofOne_X10_noOne
set_option maxRecDepth 20000 in
theorem ggX10_lives_X10_noOne : GoodIn wsX10_lives wsX10_noOne := goodIn_r _ [5, 6, 7, 8, 4, 9, 25, 26, 27, 28, 29, 30, 31, 32, 33, 34, 35, 36, 37, 38, 39, 40, 41, 42, 43, 44, 45, 46] (by decide +kernel) (by decide +kernel)
set_option maxRecDepth 20000 in
theorem gX10_lives_X10_noOne : GoodIn wsX10_lives (wsV RX10 127 RX10 yX10_noOne wsX10_noOne) := goodIn_app (goodIn_of _ (by decide +kernel)) ggX10_lives_X10_noOne
set_option maxRecDepth 20000 in
theorem ggX10_lives_X10_noVillage : GoodIn wsX10_lives wsX10_noVillage := goodIn_r _ [12, 7, 8, 4, 9] (by decide +kernel) (by decide +kernel)
set_option maxRecDepth 20000 in
theorem gX10_lives_X10_noVillage : GoodIn wsX10_lives (va_wsS RX10 130 yX10_noVillage wsX10_noVillage) := goodIn_app (goodIn_of _ (by decide +kernel)) ggX10_lives_X10_noVillage
set_option maxRecDepth 20000 in
theorem ggX10_lives_X10_isDay : GoodIn wsX10_lives wsX10_isDay := goodIn_r _ [15, 16, 7, 8, 4, 9] (by decide +kernel) (by decide +kernel)
set_option maxRecDepth 20000 in
theorem gX10_lives_X10_isDay : GoodIn wsX10_lives (va_wsS RX10 133 yX10_isDay wsX10_isDay) := goodIn_app (goodIn_of _ (by decide +kernel)) ggX10_lives_X10_isDay
set_option maxRecDepth 20000 in
theorem ggX10_lives_X10_doesLive : GoodIn wsX10_lives wsX10_doesLive := goodIn_r _ [20, 21, 22, 23, 24, 25, 26, 27, 28, 29, 30, 31, 32, 33, 34, 35, 36, 37, 38, 39, 40, 41, 42, 43, 44, 45, 46] (by decide +kernel) (by decide +kernel)
set_option maxRecDepth 20000 in
theorem gX10_lives_X10_doesLive : GoodIn wsX10_lives (wsV RX10 136 RX10 yX10_doesLive wsX10_doesLive) := goodIn_app (goodIn_of _ (by decide +kernel)) ggX10_lives_X10_doesLive
set_option maxRecDepth 20000 in
theorem ggX10_saidBy_X10_doesLive : GoodIn wsX10_saidBy wsX10_doesLive := goodIn_r _ [7, 8, 9, 10, 11, 12, 13, 14, 15, 16, 17, 18, 19, 20, 21, 22, 23, 24, 25, 26, 27, 28, 29, 30, 31, 32, 33] (by decide +kernel) (by decide +kernel)
set_option maxRecDepth 20000 in
theorem gX10_saidBy_X10_doesLive : GoodIn wsX10_saidBy (wsV RX10 136 RX10 yX10_doesLive wsX10_doesLive) := goodIn_app (goodIn_of _ (by decide +kernel)) ggX10_saidBy_X10_doesLive
set_option maxRecDepth 20000 in
theorem ggX10_word_X10_noVillage : GoodIn wsX10_word wsX10_noVillage := goodIn_r _ [5, 6, 7, 4, 8] (by decide +kernel) (by decide +kernel)
set_option maxRecDepth 20000 in
theorem gX10_word_X10_noVillage : GoodIn wsX10_word (va_wsS RX10 130 yX10_noVillage wsX10_noVillage) := goodIn_app (goodIn_of _ (by decide +kernel)) ggX10_word_X10_noVillage
set_option maxRecDepth 20000 in
theorem ggX10_word_X10_in : GoodIn wsX10_word wsX10_in := goodIn_r _ [8] (by decide +kernel) (by decide +kernel)
set_option maxRecDepth 20000 in
theorem gX10_word_X10_in : GoodIn wsX10_word (va_wsS RX10 82 yX10_in wsX10_in) := goodIn_app (goodIn_of _ (by decide +kernel)) ggX10_word_X10_in
set_option maxRecDepth 20000 in
theorem ggX10_word_X10_isDay : GoodIn wsX10_word wsX10_isDay := goodIn_r _ [11, 12, 6, 7, 4, 8] (by decide +kernel) (by decide +kernel)
set_option maxRecDepth 20000 in
theorem gX10_word_X10_isDay : GoodIn wsX10_word (va_wsS RX10 133 yX10_isDay wsX10_isDay) := goodIn_app (goodIn_of _ (by decide +kernel)) ggX10_word_X10_isDay
set_option maxRecDepth 20000 in
theorem ggX10_word_X10_saidBy : GoodIn wsX10_word wsX10_saidBy := goodIn_r _ [16, 17, 18, 19, 20, 21, 4, 22, 23, 24, 25, 26, 27, 28, 29, 30, 31, 32, 33, 34, 35, 36, 37, 38, 39, 40, 41, 42, 43, 44, 45, 46, 47, 48] (by decide +kernel) (by decide +kernel)
set_option maxRecDepth 20000 in
theorem gX10_word_X10_saidBy : GoodIn wsX10_word (wsV RX10 142 RX10 yX10_saidBy wsX10_saidBy) := goodIn_app (goodIn_of _ (by decide +kernel)) ggX10_word_X10_saidBy
set_option maxRecDepth 20000 in
theorem ggX10_sayable_X10_noVillage : GoodIn wsX10_sayable wsX10_noVillage := goodIn_r _ [4, 5, 6, 3, 7] (by decide +kernel) (by decide +kernel)
set_option maxRecDepth 20000 in
theorem gX10_sayable_X10_noVillage : GoodIn wsX10_sayable (va_wsS RX10 130 yX10_noVillage wsX10_noVillage) := goodIn_app (goodIn_of _ (by decide +kernel)) ggX10_sayable_X10_noVillage
set_option maxRecDepth 20000 in
theorem ggX10_sayable_X10_isDay : GoodIn wsX10_sayable wsX10_isDay := goodIn_r _ [10, 11, 5, 6, 3, 7] (by decide +kernel) (by decide +kernel)
set_option maxRecDepth 20000 in
theorem gX10_sayable_X10_isDay : GoodIn wsX10_sayable (va_wsS RX10 133 yX10_isDay wsX10_isDay) := goodIn_app (goodIn_of _ (by decide +kernel)) ggX10_sayable_X10_isDay
set_option maxRecDepth 20000 in
theorem ggX10_sayable_X10_saidBy : GoodIn wsX10_sayable wsX10_saidBy := goodIn_r _ [15, 16, 17, 18, 19, 20, 3, 21, 22, 23, 24, 25, 26, 27, 28, 29, 30, 31, 32, 33, 34, 35, 36, 37, 38, 39, 40, 41, 42, 43, 44, 45, 46, 47] (by decide +kernel) (by decide +kernel)
set_option maxRecDepth 20000 in
theorem gX10_sayable_X10_saidBy : GoodIn wsX10_sayable (wsV RX10 142 RX10 yX10_saidBy wsX10_saidBy) := goodIn_app (goodIn_of _ (by decide +kernel)) ggX10_sayable_X10_saidBy
set_option maxRecDepth 20000 in
theorem ggX10_layCan_X10_doesLive : GoodIn wsX10_layCan wsX10_doesLive := goodIn_r _ [8, 9, 10, 11, 12, 13, 14, 15, 16, 17, 18, 19, 20, 21, 22, 23, 24, 25, 26, 27, 28, 29, 30, 31, 32, 33, 34] (by decide +kernel) (by decide +kernel)
set_option maxRecDepth 20000 in
theorem gX10_layCan_X10_doesLive : GoodIn wsX10_layCan (wsV RX10 136 RX10 yX10_doesLive wsX10_doesLive) := goodIn_app (goodIn_of _ (by decide +kernel)) ggX10_layCan_X10_doesLive
set_option maxRecDepth 20000 in
theorem ggX10_layFewest_X10_lesser : GoodIn wsX10_layFewest wsX10_lesser := goodIn_r _ [6] (by decide +kernel) (by decide +kernel)
set_option maxRecDepth 20000 in
theorem gX10_layFewest_X10_lesser : GoodIn wsX10_layFewest (va_wsS RX10 145 yX10_lesser wsX10_lesser) := goodIn_app (goodIn_of _ (by decide +kernel)) ggX10_layFewest_X10_lesser
set_option maxRecDepth 20000 in
theorem ggX10_laySaid_X10_layCan : GoodIn wsX10_laySaid wsX10_layCan := goodIn_r _ [5, 6, 7, 8, 9, 10, 11, 4, 12, 13, 14, 15, 16, 25, 26, 27, 28, 29, 30, 31, 32, 33, 34, 35, 36, 37, 38, 39, 40, 41, 42, 43, 44, 45, 46] (by decide +kernel) (by decide +kernel)
set_option maxRecDepth 20000 in
theorem gX10_laySaid_X10_layCan : GoodIn wsX10_laySaid (wsV RX10 149 RX10 yX10_layCan wsX10_layCan) := goodIn_app (goodIn_of _ (by decide +kernel)) ggX10_laySaid_X10_layCan
set_option maxRecDepth 20000 in
theorem ggX10_laySaid_X10_layFewest : GoodIn wsX10_laySaid wsX10_layFewest := goodIn_r _ [20, 21, 6, 22, 23, 4, 24, 25, 26, 27, 28, 29, 30, 31, 32, 33, 34, 35, 36, 37, 38, 39, 40, 41, 42, 43, 44, 45, 46] (by decide +kernel) (by decide +kernel)
set_option maxRecDepth 20000 in
theorem gX10_laySaid_X10_layFewest : GoodIn wsX10_laySaid (wsV RX10 153 RX10 yX10_layFewest wsX10_layFewest) := goodIn_app (goodIn_of _ (by decide +kernel)) ggX10_laySaid_X10_layFewest
set_option maxRecDepth 20000 in
theorem ggX10_arePeople_X10_noOne : GoodIn wsX10_arePeople wsX10_noOne := goodIn_r _ [6, 7, 8, 9, 5, 10, 11, 12, 13, 14, 15, 16, 17, 18, 19, 20, 21, 22, 23, 24, 25, 26, 27, 28, 29, 30, 31, 32] (by decide +kernel) (by decide +kernel)
set_option maxRecDepth 20000 in
theorem gX10_arePeople_X10_noOne : GoodIn wsX10_arePeople (wsV RX10 127 RX10 yX10_noOne wsX10_noOne) := goodIn_app (goodIn_of _ (by decide +kernel)) ggX10_arePeople_X10_noOne
set_option maxRecDepth 20000 in
theorem ggX10_meant_X10_doesLive : GoodIn wsX10_meant wsX10_doesLive := goodIn_r _ [7, 8, 9, 10, 11, 12, 13, 14, 15, 16, 17, 18, 19, 20, 21, 22, 23, 24, 25, 26, 27, 28, 29, 30, 31, 32, 33] (by decide +kernel) (by decide +kernel)
set_option maxRecDepth 20000 in
theorem gX10_meant_X10_doesLive : GoodIn wsX10_meant (wsV RX10 136 RX10 yX10_doesLive wsX10_doesLive) := goodIn_app (goodIn_of _ (by decide +kernel)) ggX10_meant_X10_doesLive
set_option maxRecDepth 20000 in
theorem ggX10_rowBarred_X10_noVillage : GoodIn wsX10_rowBarred wsX10_noVillage := goodIn_r _ [4, 5, 6, 3, 7] (by decide +kernel) (by decide +kernel)
set_option maxRecDepth 20000 in
theorem gX10_rowBarred_X10_noVillage : GoodIn wsX10_rowBarred (va_wsS RX10 130 yX10_noVillage wsX10_noVillage) := goodIn_app (goodIn_of _ (by decide +kernel)) ggX10_rowBarred_X10_noVillage
set_option maxRecDepth 20000 in
theorem ggX10_rowBarred_X10_refused : GoodIn wsX10_rowBarred wsX10_refused := goodIn_r _ [11, 12, 41, 42, 43, 44, 45, 46, 47, 48, 49, 50, 51, 52, 53, 54, 55, 56, 57, 58, 59, 60, 61, 62] (by decide +kernel) (by decide +kernel)
set_option maxRecDepth 20000 in
theorem gX10_rowBarred_X10_refused : GoodIn wsX10_rowBarred (wsV RX10 76 RX10 yX10_refused wsX10_refused) := goodIn_app (goodIn_of _ (by decide +kernel)) ggX10_rowBarred_X10_refused
set_option maxRecDepth 20000 in
theorem ggX10_rowBarred_X10_barred : GoodIn wsX10_rowBarred wsX10_barred := goodIn_r _ [16, 17, 18, 19, 20, 21, 3, 22, 23, 5, 6, 7, 8, 9, 10, 11, 12, 24, 25, 26, 27, 28, 29, 30, 41, 42, 43, 44, 45, 46, 47, 48, 49, 50, 51, 52, 53, 54, 55, 56, 57, 58, 59, 60, 61, 62] (by decide +kernel) (by decide +kernel)
set_option maxRecDepth 20000 in
theorem gX10_rowBarred_X10_barred : GoodIn wsX10_rowBarred (wsV RX10 120 RX10 yX10_barred wsX10_barred) := goodIn_app (goodIn_of _ (by decide +kernel)) ggX10_rowBarred_X10_barred
set_option maxRecDepth 20000 in
theorem ggX10_rowBarred_X10_arePeople : GoodIn wsX10_rowBarred wsX10_arePeople := goodIn_r _ [34, 35, 36, 37, 38, 3, 39, 40, 5, 6, 7, 41, 42, 43, 44, 45, 46, 47, 48, 49, 50, 51, 52, 53, 54, 55, 56, 57, 58, 59, 60, 61, 62] (by decide +kernel) (by decide +kernel)
set_option maxRecDepth 20000 in
theorem gX10_rowBarred_X10_arePeople : GoodIn wsX10_rowBarred (wsV RX10 157 RX10 yX10_arePeople wsX10_arePeople) := goodIn_app (goodIn_of _ (by decide +kernel)) ggX10_rowBarred_X10_arePeople
set_option maxRecDepth 20000 in
theorem ggX10_means_X10_isDay : GoodIn wsX10_means wsX10_isDay := goodIn_r _ [4, 5, 6, 7, 3, 8] (by decide +kernel) (by decide +kernel)
set_option maxRecDepth 20000 in
theorem gX10_means_X10_isDay : GoodIn wsX10_means (va_wsS RX10 133 yX10_isDay wsX10_isDay) := goodIn_app (goodIn_of _ (by decide +kernel)) ggX10_means_X10_isDay
set_option maxRecDepth 20000 in
theorem ggX10_means_X10_rowBarred : GoodIn wsX10_means wsX10_rowBarred := goodIn_r _ [12, 13, 14, 3, 15, 6, 7, 8, 16, 17, 18, 19, 20, 21, 22, 23, 24, 25, 26, 27, 28, 29, 30, 31, 32, 33, 34, 35, 36, 37, 38, 39, 40, 41, 42, 43, 44, 45, 46, 47, 48, 62, 63, 64, 65, 66, 67, 68, 69, 70, 71, 72, 73, 74, 75, 76, 77, 78, 79, 80, 81, 82, 83] (by decide +kernel) (by decide +kernel)
set_option maxRecDepth 20000 in
theorem gX10_means_X10_rowBarred : GoodIn wsX10_means (wsV RX10 160 RX10 yX10_rowBarred wsX10_rowBarred) := goodIn_app (goodIn_of _ (by decide +kernel)) ggX10_means_X10_rowBarred
set_option maxRecDepth 20000 in
theorem ggX10_means_X10_meant : GoodIn wsX10_means wsX10_meant := goodIn_r _ [52, 43, 53, 54, 55, 56, 3, 57, 58, 59, 60, 61, 62, 63, 64, 65, 66, 67, 68, 69, 70, 71, 72, 73, 74, 75, 76, 77, 78, 79, 80, 81, 82, 83] (by decide +kernel) (by decide +kernel)
set_option maxRecDepth 20000 in
theorem gX10_means_X10_meant : GoodIn wsX10_means (wsV RX10 164 RX10 yX10_meant wsX10_meant) := goodIn_app (goodIn_of _ (by decide +kernel)) ggX10_means_X10_meant
set_option maxRecDepth 20000 in
theorem ggX10_means_X10_refused : GoodIn wsX10_means wsX10_refused := goodIn_r _ [19, 20, 62, 63, 64, 65, 66, 67, 68, 69, 70, 71, 72, 73, 74, 75, 76, 77, 78, 79, 80, 81, 82, 83] (by decide +kernel) (by decide +kernel)
set_option maxRecDepth 20000 in
theorem gX10_means_X10_refused : GoodIn wsX10_means (wsV RX10 76 RX10 yX10_refused wsX10_refused) := goodIn_app (goodIn_of _ (by decide +kernel)) ggX10_means_X10_refused
set_option maxRecDepth 20000 in
theorem ggX10_say_X10_noVillage : GoodIn wsX10_say wsX10_noVillage := goodIn_r _ [7, 8, 9, 6, 10] (by decide +kernel) (by decide +kernel)
set_option maxRecDepth 20000 in
theorem gX10_say_X10_noVillage : GoodIn wsX10_say (va_wsS RX10 130 yX10_noVillage wsX10_noVillage) := goodIn_app (goodIn_of _ (by decide +kernel)) ggX10_say_X10_noVillage
set_option maxRecDepth 20000 in
theorem ggX10_say_X10_in : GoodIn wsX10_say wsX10_in := goodIn_r _ [10] (by decide +kernel) (by decide +kernel)
set_option maxRecDepth 20000 in
theorem gX10_say_X10_in : GoodIn wsX10_say (va_wsS RX10 82 yX10_in wsX10_in) := goodIn_app (goodIn_of _ (by decide +kernel)) ggX10_say_X10_in
set_option maxRecDepth 20000 in
theorem ggX10_say_X10_isDay : GoodIn wsX10_say wsX10_isDay := goodIn_r _ [13, 14, 8, 9, 6, 10] (by decide +kernel) (by decide +kernel)
set_option maxRecDepth 20000 in
theorem gX10_say_X10_isDay : GoodIn wsX10_say (va_wsS RX10 133 yX10_isDay wsX10_isDay) := goodIn_app (goodIn_of _ (by decide +kernel)) ggX10_say_X10_isDay
set_option maxRecDepth 20000 in
theorem ggX10_say_X10_laySaid : GoodIn wsX10_say wsX10_laySaid := goodIn_r _ [18, 19, 20, 21, 6, 22, 3, 23, 24, 25, 26, 27, 28, 29, 30, 31, 32, 33, 34, 35, 36, 2, 37, 38, 39, 40, 41, 42, 43, 44, 45, 46, 47, 48, 49, 50, 51, 52, 53, 54, 55, 56, 57, 58, 59, 60, 61] (by decide +kernel) (by decide +kernel)
set_option maxRecDepth 20000 in
theorem gX10_say_X10_laySaid : GoodIn wsX10_say (wsV RX10 169 RX10 yX10_laySaid wsX10_laySaid) := goodIn_app (goodIn_of _ (by decide +kernel)) ggX10_say_X10_laySaid
set_option maxRecDepth 20000 in
theorem ggX10_say_X10_lesser : GoodIn wsX10_say wsX10_lesser := goodIn_r _ [39] (by decide +kernel) (by decide +kernel)
set_option maxRecDepth 20000 in
theorem gX10_say_X10_lesser : GoodIn wsX10_say (va_wsS RX10 145 yX10_lesser wsX10_lesser) := goodIn_app (goodIn_of _ (by decide +kernel)) ggX10_say_X10_lesser
set_option maxRecDepth 20000 in
theorem ggX10_turned_X10_isDay : GoodIn wsX10_turned wsX10_isDay := goodIn_r _ [6, 7, 8, 9, 5, 10] (by decide +kernel) (by decide +kernel)
set_option maxRecDepth 20000 in
theorem gX10_turned_X10_isDay : GoodIn wsX10_turned (va_wsS RX10 133 yX10_isDay wsX10_isDay) := goodIn_app (goodIn_of _ (by decide +kernel)) ggX10_turned_X10_isDay
set_option maxRecDepth 20000 in
theorem ggX10_turned_X10_rowBarred : GoodIn wsX10_turned wsX10_rowBarred := goodIn_r _ [14, 15, 16, 5, 17, 8, 9, 10, 18, 19, 20, 21, 22, 23, 24, 25, 26, 27, 28, 29, 30, 31, 32, 33, 34, 35, 36, 37, 38, 39, 40, 41, 42, 43, 44, 45, 46, 47, 48, 49, 50, 80, 81, 82, 83, 84, 85, 86, 87, 88, 89, 90, 91, 92, 93, 94, 95, 96, 97, 98, 99, 100, 101] (by decide +kernel) (by decide +kernel)
set_option maxRecDepth 20000 in
theorem gX10_turned_X10_rowBarred : GoodIn wsX10_turned (wsV RX10 160 RX10 yX10_rowBarred wsX10_rowBarred) := goodIn_app (goodIn_of _ (by decide +kernel)) ggX10_turned_X10_rowBarred
set_option maxRecDepth 20000 in
theorem ggX10_turned_X10_meant : GoodIn wsX10_turned wsX10_meant := goodIn_r _ [54, 45, 55, 56, 57, 58, 5, 59, 60, 61, 62, 63, 80, 81, 82, 83, 84, 85, 86, 87, 88, 89, 90, 91, 92, 93, 94, 95, 96, 97, 98, 99, 100, 101] (by decide +kernel) (by decide +kernel)
set_option maxRecDepth 20000 in
theorem gX10_turned_X10_meant : GoodIn wsX10_turned (wsV RX10 164 RX10 yX10_meant wsX10_meant) := goodIn_app (goodIn_of _ (by decide +kernel)) ggX10_turned_X10_meant
set_option maxRecDepth 20000 in
theorem ggX10_turned_X10_in : GoodIn wsX10_turned wsX10_in := goodIn_r _ [10] (by decide +kernel) (by decide +kernel)
set_option maxRecDepth 20000 in
theorem gX10_turned_X10_in : GoodIn wsX10_turned (va_wsS RX10 82 yX10_in wsX10_in) := goodIn_app (goodIn_of _ (by decide +kernel)) ggX10_turned_X10_in
set_option maxRecDepth 20000 in
theorem ggX10_turned_X10_refused : GoodIn wsX10_turned wsX10_refused := goodIn_r _ [21, 22, 80, 81, 82, 83, 84, 85, 86, 87, 88, 89, 90, 91, 92, 93, 94, 95, 96, 97, 98, 99, 100, 101] (by decide +kernel) (by decide +kernel)
set_option maxRecDepth 20000 in
theorem gX10_turned_X10_refused : GoodIn wsX10_turned (wsV RX10 76 RX10 yX10_refused wsX10_refused) := goodIn_app (goodIn_of _ (by decide +kernel)) ggX10_turned_X10_refused
set_option maxRecDepth 20000 in
theorem ggX10_turned_X10_laySaid : GoodIn wsX10_turned wsX10_laySaid := goodIn_r _ [67, 68, 69, 70, 5, 71, 72, 50, 55, 56, 57, 58, 59, 60, 61, 62, 63, 73, 74, 75, 76, 2, 77, 78, 79, 80, 81, 82, 83, 84, 85, 86, 87, 88, 89, 90, 91, 92, 93, 94, 95, 96, 97, 98, 99, 100, 101] (by decide +kernel) (by decide +kernel)
set_option maxRecDepth 20000 in
theorem gX10_turned_X10_laySaid : GoodIn wsX10_turned (wsV RX10 169 RX10 yX10_laySaid wsX10_laySaid) := goodIn_app (goodIn_of _ (by decide +kernel)) ggX10_turned_X10_laySaid
set_option maxRecDepth 20000 in
theorem ggX10_child_X10_noVillage : GoodIn wsX10_child wsX10_noVillage := goodIn_r _ [8, 9, 10, 7, 11] (by decide +kernel) (by decide +kernel)
set_option maxRecDepth 20000 in
theorem gX10_child_X10_noVillage : GoodIn wsX10_child (va_wsS RX10 130 yX10_noVillage wsX10_noVillage) := goodIn_app (goodIn_of _ (by decide +kernel)) ggX10_child_X10_noVillage
set_option maxRecDepth 20000 in
theorem ggX10_child_X10_refused : GoodIn wsX10_child wsX10_refused := goodIn_r _ [15, 16, 64, 65, 66, 67, 68, 69, 70, 71, 72, 73, 74, 75, 76, 77, 78, 79, 80, 81, 82, 83, 84, 85] (by decide +kernel) (by decide +kernel)
set_option maxRecDepth 20000 in
theorem gX10_child_X10_refused : GoodIn wsX10_child (wsV RX10 76 RX10 yX10_refused wsX10_refused) := goodIn_app (goodIn_of _ (by decide +kernel)) ggX10_child_X10_refused
set_option maxRecDepth 20000 in
theorem ggX10_child_X10_isDay : GoodIn wsX10_child wsX10_isDay := goodIn_r _ [19, 20, 9, 10, 7, 11] (by decide +kernel) (by decide +kernel)
set_option maxRecDepth 20000 in
theorem gX10_child_X10_isDay : GoodIn wsX10_child (va_wsS RX10 133 yX10_isDay wsX10_isDay) := goodIn_app (goodIn_of _ (by decide +kernel)) ggX10_child_X10_isDay
set_option maxRecDepth 20000 in
theorem ggX10_child_X10_isFew : GoodIn wsX10_child wsX10_isFew := goodIn_r _ [23, 24, 9, 10, 7, 11] (by decide +kernel) (by decide +kernel)
set_option maxRecDepth 20000 in
theorem gX10_child_X10_isFew : GoodIn wsX10_child (va_wsS RX10 172 yX10_isFew wsX10_isFew) := goodIn_app (goodIn_of _ (by decide +kernel)) ggX10_child_X10_isFew
set_option maxRecDepth 20000 in
theorem ggX10_child_X10_in : GoodIn wsX10_child wsX10_in := goodIn_r _ [11] (by decide +kernel) (by decide +kernel)
set_option maxRecDepth 20000 in
theorem gX10_child_X10_in : GoodIn wsX10_child (va_wsS RX10 82 yX10_in wsX10_in) := goodIn_app (goodIn_of _ (by decide +kernel)) ggX10_child_X10_in
set_option maxRecDepth 20000 in
theorem ggX10_child_X10_barred : GoodIn wsX10_child wsX10_barred := goodIn_r _ [28, 29, 30, 31, 32, 33, 7, 34, 35, 9, 10, 11, 12, 13, 14, 15, 16, 36, 37, 38, 39, 40, 41, 42, 64, 65, 66, 67, 68, 69, 70, 71, 72, 73, 74, 75, 76, 77, 78, 79, 80, 81, 82, 83, 84, 85] (by decide +kernel) (by decide +kernel)
set_option maxRecDepth 20000 in
theorem gX10_child_X10_barred : GoodIn wsX10_child (wsV RX10 120 RX10 yX10_barred wsX10_barred) := goodIn_app (goodIn_of _ (by decide +kernel)) ggX10_child_X10_barred
set_option maxRecDepth 20000 in
theorem ggX10_child_X10_layCan : GoodIn wsX10_child wsX10_layCan := goodIn_r _ [46, 3, 47, 48, 49, 50, 51, 7, 52, 53, 54, 55, 56, 64, 65, 66, 67, 68, 69, 70, 71, 72, 73, 74, 75, 76, 77, 78, 79, 80, 81, 82, 83, 84, 85] (by decide +kernel) (by decide +kernel)
set_option maxRecDepth 20000 in
theorem gX10_child_X10_layCan : GoodIn wsX10_child (wsV RX10 149 RX10 yX10_layCan wsX10_layCan) := goodIn_app (goodIn_of _ (by decide +kernel)) ggX10_child_X10_layCan
set_option maxRecDepth 20000 in
theorem ggX10_child_X10_layFewest : GoodIn wsX10_child wsX10_layFewest := goodIn_r _ [60, 4, 3, 61, 62, 7, 63, 64, 65, 66, 67, 68, 69, 70, 71, 72, 73, 74, 75, 76, 77, 78, 79, 80, 81, 82, 83, 84, 85] (by decide +kernel) (by decide +kernel)
set_option maxRecDepth 20000 in
theorem gX10_child_X10_layFewest : GoodIn wsX10_child (wsV RX10 153 RX10 yX10_layFewest wsX10_layFewest) := goodIn_app (goodIn_of _ (by decide +kernel)) ggX10_child_X10_layFewest
set_option maxRecDepth 20000 in
theorem ggX10_both_X10_in : GoodIn wsX10_both wsX10_in := goodIn_r _ [7] (by decide +kernel) (by decide +kernel)
set_option maxRecDepth 20000 in
theorem gX10_both_X10_in : GoodIn wsX10_both (va_wsS RX10 82 yX10_in wsX10_in) := goodIn_app (goodIn_of _ (by decide +kernel)) ggX10_both_X10_in
set_option maxRecDepth 20000 in
theorem ggX10_both_X10_isFew : GoodIn wsX10_both wsX10_isFew := goodIn_r _ [10, 11, 4, 5, 6, 7] (by decide +kernel) (by decide +kernel)
set_option maxRecDepth 20000 in
theorem gX10_both_X10_isFew : GoodIn wsX10_both (va_wsS RX10 172 yX10_isFew wsX10_isFew) := goodIn_app (goodIn_of _ (by decide +kernel)) ggX10_both_X10_isFew
set_option maxRecDepth 20000 in
theorem ggX10_both_X10_isDay : GoodIn wsX10_both wsX10_isDay := goodIn_r _ [14, 15, 4, 5, 6, 7] (by decide +kernel) (by decide +kernel)
set_option maxRecDepth 20000 in
theorem gX10_both_X10_isDay : GoodIn wsX10_both (va_wsS RX10 133 yX10_isDay wsX10_isDay) := goodIn_app (goodIn_of _ (by decide +kernel)) ggX10_both_X10_isDay
set_option maxRecDepth 20000 in
theorem ggX10_both_X10_laySaid : GoodIn wsX10_both wsX10_laySaid := goodIn_r _ [19, 20, 21, 22, 6, 23, 24, 25, 26, 27, 28, 29, 30, 31, 32, 33, 34, 35, 36, 37, 38, 3, 39, 40, 41, 42, 43, 44, 45, 46, 47, 48, 49, 50, 51, 52, 53, 54, 55, 56, 57, 58, 59, 60, 61, 62, 63] (by decide +kernel) (by decide +kernel)
set_option maxRecDepth 20000 in
theorem gX10_both_X10_laySaid : GoodIn wsX10_both (wsV RX10 169 RX10 yX10_laySaid wsX10_laySaid) := goodIn_app (goodIn_of _ (by decide +kernel)) ggX10_both_X10_laySaid
set_option maxRecDepth 20000 in
theorem ggX10_written_X10_in : GoodIn wsX10_written wsX10_in := goodIn_r _ [5] (by decide +kernel) (by decide +kernel)
set_option maxRecDepth 20000 in
theorem gX10_written_X10_in : GoodIn wsX10_written (va_wsS RX10 82 yX10_in wsX10_in) := goodIn_app (goodIn_of _ (by decide +kernel)) ggX10_written_X10_in
set_option maxRecDepth 20000 in
theorem ggX10_written_X10_rowBarred : GoodIn wsX10_written wsX10_rowBarred := goodIn_r _ [9, 10, 11, 4, 12, 2, 3, 5, 13, 14, 15, 16, 17, 18, 19, 20, 21, 1, 22, 23, 24, 25, 26, 27, 28, 29, 30, 31, 32, 33, 34, 35, 36, 37, 38, 39, 40, 41, 42, 43, 44, 58, 59, 60, 61, 62, 63, 64, 65, 66, 67, 68, 69, 70, 71, 72, 73, 74, 75, 76, 77, 78, 79] (by decide +kernel) (by decide +kernel)
set_option maxRecDepth 20000 in
theorem gX10_written_X10_rowBarred : GoodIn wsX10_written (wsV RX10 160 RX10 yX10_rowBarred wsX10_rowBarred) := goodIn_app (goodIn_of _ (by decide +kernel)) ggX10_written_X10_rowBarred
set_option maxRecDepth 20000 in
theorem ggX10_written_X10_meant : GoodIn wsX10_written wsX10_meant := goodIn_r _ [48, 39, 49, 50, 51, 52, 4, 53, 54, 55, 56, 57, 58, 59, 60, 61, 62, 63, 64, 65, 66, 67, 68, 69, 70, 71, 72, 73, 74, 75, 76, 77, 78, 79] (by decide +kernel) (by decide +kernel)
set_option maxRecDepth 20000 in
theorem gX10_written_X10_meant : GoodIn wsX10_written (wsV RX10 164 RX10 yX10_meant wsX10_meant) := goodIn_app (goodIn_of _ (by decide +kernel)) ggX10_written_X10_meant
set_option maxRecDepth 20000 in
theorem ggX10_written_X10_refused : GoodIn wsX10_written wsX10_refused := goodIn_r _ [16, 17, 58, 59, 60, 61, 62, 63, 64, 65, 66, 67, 68, 69, 70, 71, 72, 73, 74, 75, 76, 77, 78, 79] (by decide +kernel) (by decide +kernel)
set_option maxRecDepth 20000 in
theorem gX10_written_X10_refused : GoodIn wsX10_written (wsV RX10 76 RX10 yX10_refused wsX10_refused) := goodIn_app (goodIn_of _ (by decide +kernel)) ggX10_written_X10_refused
set_option maxRecDepth 20000 in
theorem ggX10_lost_X10_noOne : GoodIn wsX10_lost wsX10_noOne := goodIn_r _ [5, 6, 7, 8, 4, 9, 51, 52, 53, 54, 55, 56, 57, 58, 59, 60, 61, 62, 63, 64, 65, 66, 67, 68, 69, 70, 71, 72] (by decide +kernel) (by decide +kernel)
set_option maxRecDepth 20000 in
theorem gX10_lost_X10_noOne : GoodIn wsX10_lost (wsV RX10 127 RX10 yX10_noOne wsX10_noOne) := goodIn_app (goodIn_of _ (by decide +kernel)) ggX10_lost_X10_noOne
set_option maxRecDepth 20000 in
theorem ggX10_lost_X10_noVillage : GoodIn wsX10_lost wsX10_noVillage := goodIn_r _ [12, 7, 8, 4, 9] (by decide +kernel) (by decide +kernel)
set_option maxRecDepth 20000 in
theorem gX10_lost_X10_noVillage : GoodIn wsX10_lost (va_wsS RX10 130 yX10_noVillage wsX10_noVillage) := goodIn_app (goodIn_of _ (by decide +kernel)) ggX10_lost_X10_noVillage
set_option maxRecDepth 20000 in
theorem ggX10_lost_X10_isDay : GoodIn wsX10_lost wsX10_isDay := goodIn_r _ [15, 16, 7, 8, 4, 9] (by decide +kernel) (by decide +kernel)
set_option maxRecDepth 20000 in
theorem gX10_lost_X10_isDay : GoodIn wsX10_lost (va_wsS RX10 133 yX10_isDay wsX10_isDay) := goodIn_app (goodIn_of _ (by decide +kernel)) ggX10_lost_X10_isDay
set_option maxRecDepth 20000 in
theorem ggX10_lost_X10_isFew : GoodIn wsX10_lost wsX10_isFew := goodIn_r _ [19, 20, 7, 8, 4, 9] (by decide +kernel) (by decide +kernel)
set_option maxRecDepth 20000 in
theorem gX10_lost_X10_isFew : GoodIn wsX10_lost (va_wsS RX10 172 yX10_isFew wsX10_isFew) := goodIn_app (goodIn_of _ (by decide +kernel)) ggX10_lost_X10_isFew
set_option maxRecDepth 20000 in
theorem ggX10_lost_X10_laySaid : GoodIn wsX10_lost wsX10_laySaid := goodIn_r _ [24, 25, 26, 27, 4, 28, 29, 6, 30, 31, 32, 33, 34, 35, 36, 37, 38, 39, 40, 41, 42, 43, 44, 45, 46, 51, 52, 53, 54, 55, 56, 57, 58, 59, 60, 61, 62, 63, 64, 65, 66, 67, 68, 69, 70, 71, 72] (by decide +kernel) (by decide +kernel)
set_option maxRecDepth 20000 in
theorem gX10_lost_X10_laySaid : GoodIn wsX10_lost (wsV RX10 169 RX10 yX10_laySaid wsX10_laySaid) := goodIn_app (goodIn_of _ (by decide +kernel)) ggX10_lost_X10_laySaid
set_option maxRecDepth 20000 in
theorem ggX10_lost_X10_saidOf : GoodIn wsX10_lost wsX10_saidOf := goodIn_r _ [50, 43, 51, 52, 53, 54, 55, 56, 57, 58, 59, 60, 61, 62, 63, 64, 65, 66, 67, 68, 69, 70, 71, 72] (by decide +kernel) (by decide +kernel)
set_option maxRecDepth 20000 in
theorem gX10_lost_X10_saidOf : GoodIn wsX10_lost (wsV RX10 175 RX10 yX10_saidOf wsX10_saidOf) := goodIn_app (goodIn_of _ (by decide +kernel)) ggX10_lost_X10_saidOf
set_option maxRecDepth 20000 in
theorem ggX10_lost_X10_layCan : GoodIn wsX10_lost wsX10_layCan := goodIn_r _ [28, 29, 6, 30, 31, 32, 33, 4, 34, 35, 36, 37, 38, 51, 52, 53, 54, 55, 56, 57, 58, 59, 60, 61, 62, 63, 64, 65, 66, 67, 68, 69, 70, 71, 72] (by decide +kernel) (by decide +kernel)
set_option maxRecDepth 20000 in
theorem gX10_lost_X10_layCan : GoodIn wsX10_lost (wsV RX10 149 RX10 yX10_layCan wsX10_layCan) := goodIn_app (goodIn_of _ (by decide +kernel)) ggX10_lost_X10_layCan
set_option maxRecDepth 20000 in
theorem ggX10_lost_X10_layFewest : GoodIn wsX10_lost wsX10_layFewest := goodIn_r _ [42, 43, 29, 44, 45, 4, 46, 51, 52, 53, 54, 55, 56, 57, 58, 59, 60, 61, 62, 63, 64, 65, 66, 67, 68, 69, 70, 71, 72] (by decide +kernel) (by decide +kernel)
set_option maxRecDepth 20000 in
theorem gX10_lost_X10_layFewest : GoodIn wsX10_lost (wsV RX10 153 RX10 yX10_layFewest wsX10_layFewest) := goodIn_app (goodIn_of _ (by decide +kernel)) ggX10_lost_X10_layFewest
set_option maxRecDepth 20000 in
theorem ggX10_isSaidBy_X10_layCan : GoodIn wsX10_isSaidBy wsX10_layCan := goodIn_r _ [9, 2, 1, 3, 10, 11, 12, 8, 13, 14, 15, 16, 17, 25, 26, 27, 28, 29, 30, 31, 32, 33, 34, 35, 36, 37, 38, 39, 40, 41, 42, 43, 44, 45, 46] (by decide +kernel) (by decide +kernel)
set_option maxRecDepth 20000 in
theorem gX10_isSaidBy_X10_layCan : GoodIn wsX10_isSaidBy (wsV RX10 149 RX10 yX10_layCan wsX10_layCan) := goodIn_app (goodIn_of _ (by decide +kernel)) ggX10_isSaidBy_X10_layCan
set_option maxRecDepth 20000 in
theorem ggX10_isSaidBy_X10_layFewest : GoodIn wsX10_isSaidBy wsX10_layFewest := goodIn_r _ [21, 4, 2, 22, 23, 8, 24, 25, 26, 27, 28, 29, 30, 31, 32, 33, 34, 35, 36, 37, 38, 39, 40, 41, 42, 43, 44, 45, 46] (by decide +kernel) (by decide +kernel)
set_option maxRecDepth 20000 in
theorem gX10_isSaidBy_X10_layFewest : GoodIn wsX10_isSaidBy (wsV RX10 153 RX10 yX10_layFewest wsX10_layFewest) := goodIn_app (goodIn_of _ (by decide +kernel)) ggX10_isSaidBy_X10_layFewest
set_option maxRecDepth 20000 in
theorem ggX10_setOf_X10_doesLive : GoodIn wsX10_setOf wsX10_doesLive := goodIn_r _ [6, 7, 8, 9, 10, 11, 12, 13, 14, 15, 16, 17, 18, 19, 20, 21, 22, 23, 24, 25, 26, 27, 28, 29, 30, 31, 32] (by decide +kernel) (by decide +kernel)
set_option maxRecDepth 20000 in
theorem gX10_setOf_X10_doesLive : GoodIn wsX10_setOf (wsV RX10 136 RX10 yX10_doesLive wsX10_doesLive) := goodIn_app (goodIn_of _ (by decide +kernel)) ggX10_setOf_X10_doesLive
set_option maxRecDepth 20000 in
theorem ggX10_back_X10_noVillage : GoodIn wsX10_back wsX10_noVillage := goodIn_r _ [7, 8, 9, 6, 10] (by decide +kernel) (by decide +kernel)
set_option maxRecDepth 20000 in
theorem gX10_back_X10_noVillage : GoodIn wsX10_back (va_wsS RX10 130 yX10_noVillage wsX10_noVillage) := goodIn_app (goodIn_of _ (by decide +kernel)) ggX10_back_X10_noVillage
set_option maxRecDepth 20000 in
theorem ggX10_back_X10_in : GoodIn wsX10_back wsX10_in := goodIn_r _ [10] (by decide +kernel) (by decide +kernel)
set_option maxRecDepth 20000 in
theorem gX10_back_X10_in : GoodIn wsX10_back (va_wsS RX10 82 yX10_in wsX10_in) := goodIn_app (goodIn_of _ (by decide +kernel)) ggX10_back_X10_in
set_option maxRecDepth 20000 in
theorem ggX10_back_X10_isDay : GoodIn wsX10_back wsX10_isDay := goodIn_r _ [13, 14, 8, 9, 6, 10] (by decide +kernel) (by decide +kernel)
set_option maxRecDepth 20000 in
theorem gX10_back_X10_isDay : GoodIn wsX10_back (va_wsS RX10 133 yX10_isDay wsX10_isDay) := goodIn_app (goodIn_of _ (by decide +kernel)) ggX10_back_X10_isDay
set_option maxRecDepth 20000 in
theorem ggX10_back_X10_isFew : GoodIn wsX10_back wsX10_isFew := goodIn_r _ [17, 18, 8, 9, 6, 10] (by decide +kernel) (by decide +kernel)
set_option maxRecDepth 20000 in
theorem gX10_back_X10_isFew : GoodIn wsX10_back (va_wsS RX10 172 yX10_isFew wsX10_isFew) := goodIn_app (goodIn_of _ (by decide +kernel)) ggX10_back_X10_isFew
set_option maxRecDepth 20000 in
theorem ggX10_back_X10_setOf : GoodIn wsX10_back wsX10_setOf := goodIn_r _ [22, 23, 24, 25, 26, 6, 27, 28, 29, 30, 31, 53, 54, 55, 56, 57, 58, 59, 60, 61, 62, 63, 64, 65, 66, 67, 68, 69, 70, 71, 72, 73, 74] (by decide +kernel) (by decide +kernel)
set_option maxRecDepth 20000 in
theorem gX10_back_X10_setOf : GoodIn wsX10_back (wsV RX10 180 RX10 yX10_setOf wsX10_setOf) := goodIn_app (goodIn_of _ (by decide +kernel)) ggX10_back_X10_setOf
set_option maxRecDepth 20000 in
theorem ggX10_back_X10_bits : GoodIn wsX10_back wsX10_bits := goodIn_r _ [34] (by decide +kernel) (by decide +kernel)
set_option maxRecDepth 20000 in
theorem gX10_back_X10_bits : GoodIn wsX10_back (va_wsS RX10 183 yX10_bits wsX10_bits) := goodIn_app (goodIn_of _ (by decide +kernel)) ggX10_back_X10_bits
set_option maxRecDepth 20000 in
theorem ggX10_back_X10_isSaidBy : GoodIn wsX10_back wsX10_isSaidBy := goodIn_r _ [38, 23, 39, 40, 41, 42, 43, 44, 6, 45, 24, 25, 26, 27, 28, 29, 30, 31, 46, 47, 48, 49, 50, 51, 52, 53, 54, 55, 56, 57, 58, 59, 60, 61, 62, 63, 64, 65, 66, 67, 68, 69, 70, 71, 72, 73, 74] (by decide +kernel) (by decide +kernel)
set_option maxRecDepth 20000 in
theorem gX10_back_X10_isSaidBy : GoodIn wsX10_back (wsV RX10 186 RX10 yX10_isSaidBy wsX10_isSaidBy) := goodIn_app (goodIn_of _ (by decide +kernel)) ggX10_back_X10_isSaidBy
set_option maxRecDepth 20000 in
theorem ggX10_told_X10_noVillage : GoodIn wsX10_told wsX10_noVillage := goodIn_r _ [5, 6, 7, 4, 8] (by decide +kernel) (by decide +kernel)
set_option maxRecDepth 20000 in
theorem gX10_told_X10_noVillage : GoodIn wsX10_told (va_wsS RX10 130 yX10_noVillage wsX10_noVillage) := goodIn_app (goodIn_of _ (by decide +kernel)) ggX10_told_X10_noVillage
set_option maxRecDepth 20000 in
theorem ggX10_told_X10_isDay : GoodIn wsX10_told wsX10_isDay := goodIn_r _ [11, 12, 6, 7, 4, 8] (by decide +kernel) (by decide +kernel)
set_option maxRecDepth 20000 in
theorem gX10_told_X10_isDay : GoodIn wsX10_told (va_wsS RX10 133 yX10_isDay wsX10_isDay) := goodIn_app (goodIn_of _ (by decide +kernel)) ggX10_told_X10_isDay
set_option maxRecDepth 20000 in
theorem ggX10_told_X10_isFew : GoodIn wsX10_told wsX10_isFew := goodIn_r _ [15, 16, 6, 7, 4, 8] (by decide +kernel) (by decide +kernel)
set_option maxRecDepth 20000 in
theorem gX10_told_X10_isFew : GoodIn wsX10_told (va_wsS RX10 172 yX10_isFew wsX10_isFew) := goodIn_app (goodIn_of _ (by decide +kernel)) ggX10_told_X10_isFew
set_option maxRecDepth 20000 in
theorem ggX10_told_X10_in : GoodIn wsX10_told wsX10_in := goodIn_r _ [8] (by decide +kernel) (by decide +kernel)
set_option maxRecDepth 20000 in
theorem gX10_told_X10_in : GoodIn wsX10_told (va_wsS RX10 82 yX10_in wsX10_in) := goodIn_app (goodIn_of _ (by decide +kernel)) ggX10_told_X10_in
set_option maxRecDepth 20000 in
theorem ggX10_told_X10_nothing : GoodIn wsX10_told wsX10_nothing := goodIn_r _ [19, 20] (by decide +kernel) (by decide +kernel)
set_option maxRecDepth 20000 in
theorem gX10_told_X10_nothing : GoodIn wsX10_told (va_wsS RX10 68 yX10_nothing wsX10_nothing) := goodIn_app (goodIn_of _ (by decide +kernel)) ggX10_told_X10_nothing
set_option maxRecDepth 20000 in
theorem ggX10_told_X10_laySaid : GoodIn wsX10_told wsX10_laySaid := goodIn_r _ [24, 25, 26, 27, 4, 28, 29, 30, 31, 32, 33, 34, 35, 36, 37, 38, 39, 40, 41, 42, 43, 44, 45, 46, 47, 55, 56, 57, 58, 59, 60, 61, 62, 63, 64, 65, 66, 67, 68, 69, 70, 71, 72, 73, 74, 75, 76] (by decide +kernel) (by decide +kernel)
set_option maxRecDepth 20000 in
theorem gX10_told_X10_laySaid : GoodIn wsX10_told (wsV RX10 169 RX10 yX10_laySaid wsX10_laySaid) := goodIn_app (goodIn_of _ (by decide +kernel)) ggX10_told_X10_laySaid
set_option maxRecDepth 20000 in
theorem ggX10_told_X10_saidOf : GoodIn wsX10_told wsX10_saidOf := goodIn_r _ [51, 44, 55, 56, 57, 58, 59, 60, 61, 62, 63, 64, 65, 66, 67, 68, 69, 70, 71, 72, 73, 74, 75, 76] (by decide +kernel) (by decide +kernel)
set_option maxRecDepth 20000 in
theorem gX10_told_X10_saidOf : GoodIn wsX10_told (wsV RX10 175 RX10 yX10_saidOf wsX10_saidOf) := goodIn_app (goodIn_of _ (by decide +kernel)) ggX10_told_X10_saidOf
set_option maxRecDepth 20000 in
theorem ggX10_told_X10_shared : GoodIn wsX10_told wsX10_shared := goodIn_r _ [54] (by decide +kernel) (by decide +kernel)
set_option maxRecDepth 20000 in
theorem gX10_told_X10_shared : GoodIn wsX10_told (va_wsS RX10 190 yX10_shared wsX10_shared) := goodIn_app (goodIn_of _ (by decide +kernel)) ggX10_told_X10_shared
set_option maxRecDepth 20000 in
theorem ggX10_noSheet_X10_in : GoodIn wsX10_noSheet wsX10_in := goodIn_r _ [5] (by decide +kernel) (by decide +kernel)
set_option maxRecDepth 20000 in
theorem gX10_noSheet_X10_in : GoodIn wsX10_noSheet (va_wsS RX10 82 yX10_in wsX10_in) := goodIn_app (goodIn_of _ (by decide +kernel)) ggX10_noSheet_X10_in
set_option maxRecDepth 20000 in
theorem ggX10_sheet_X10_noSheet : GoodIn wsX10_sheet wsX10_noSheet := goodIn_r _ [8, 9, 10, 11, 7, 12] (by decide +kernel) (by decide +kernel)
set_option maxRecDepth 20000 in
theorem gX10_sheet_X10_noSheet : GoodIn wsX10_sheet (va_wsS RX10 72 yX10_noSheet wsX10_noSheet) := goodIn_app (goodIn_of _ (by decide +kernel)) ggX10_sheet_X10_noSheet
set_option maxRecDepth 20000 in
theorem ggX10_sheet_X10_refused : GoodIn wsX10_sheet wsX10_refused := goodIn_r _ [16, 17, 22, 23, 24, 25, 26, 27, 28, 29, 30, 31, 32, 33, 34, 35, 36, 37, 38, 39, 40, 41, 42, 43] (by decide +kernel) (by decide +kernel)
set_option maxRecDepth 20000 in
theorem gX10_sheet_X10_refused : GoodIn wsX10_sheet (wsV RX10 76 RX10 yX10_refused wsX10_refused) := goodIn_app (goodIn_of _ (by decide +kernel)) ggX10_sheet_X10_refused
set_option maxRecDepth 20000 in
theorem ggX10_sheet_X10_in : GoodIn wsX10_sheet wsX10_in := goodIn_r _ [12] (by decide +kernel) (by decide +kernel)
set_option maxRecDepth 20000 in
theorem gX10_sheet_X10_in : GoodIn wsX10_sheet (va_wsS RX10 82 yX10_in wsX10_in) := goodIn_app (goodIn_of _ (by decide +kernel)) ggX10_sheet_X10_in
set_option maxRecDepth 20000 in
theorem ggX10_sheet_X10_failed : GoodIn wsX10_sheet wsX10_failed := goodIn_r _ [21, 17, 22, 23, 24, 25, 26, 27, 28, 29, 30, 31, 32, 33, 34, 35, 36, 37, 38, 39, 40, 41, 42, 43] (by decide +kernel) (by decide +kernel)
set_option maxRecDepth 20000 in
theorem gX10_sheet_X10_failed : GoodIn wsX10_sheet (wsV RX10 86 RX10 yX10_failed wsX10_failed) := goodIn_app (goodIn_of _ (by decide +kernel)) ggX10_sheet_X10_failed
set_option maxRecDepth 20000 in
theorem ggX10_lose_X10_noSheet : GoodIn wsX10_lose wsX10_noSheet := goodIn_r _ [5, 6, 7, 8, 4, 9] (by decide +kernel) (by decide +kernel)
set_option maxRecDepth 20000 in
theorem gX10_lose_X10_noSheet : GoodIn wsX10_lose (va_wsS RX10 72 yX10_noSheet wsX10_noSheet) := goodIn_app (goodIn_of _ (by decide +kernel)) ggX10_lose_X10_noSheet
set_option maxRecDepth 20000 in
theorem ggX10_noCell_X10_in : GoodIn wsX10_noCell wsX10_in := goodIn_r _ [5] (by decide +kernel) (by decide +kernel)
set_option maxRecDepth 20000 in
theorem gX10_noCell_X10_in : GoodIn wsX10_noCell (va_wsS RX10 82 yX10_in wsX10_in) := goodIn_app (goodIn_of _ (by decide +kernel)) ggX10_noCell_X10_in
set_option maxRecDepth 20000 in
theorem ggX10_put_X10_noSheet : GoodIn wsX10_put wsX10_noSheet := goodIn_r _ [6, 7, 8, 9, 5, 10] (by decide +kernel) (by decide +kernel)
set_option maxRecDepth 20000 in
theorem gX10_put_X10_noSheet : GoodIn wsX10_put (va_wsS RX10 72 yX10_noSheet wsX10_noSheet) := goodIn_app (goodIn_of _ (by decide +kernel)) ggX10_put_X10_noSheet
set_option maxRecDepth 20000 in
theorem ggX10_put_X10_refused : GoodIn wsX10_put wsX10_refused := goodIn_r _ [14, 15, 25, 26, 27, 28, 29, 30, 31, 32, 33, 34, 35, 36, 37, 38, 39, 40, 41, 42, 43, 44, 45, 46] (by decide +kernel) (by decide +kernel)
set_option maxRecDepth 20000 in
theorem gX10_put_X10_refused : GoodIn wsX10_put (wsV RX10 76 RX10 yX10_refused wsX10_refused) := goodIn_app (goodIn_of _ (by decide +kernel)) ggX10_put_X10_refused
set_option maxRecDepth 20000 in
theorem ggX10_put_X10_noCell : GoodIn wsX10_put wsX10_noCell := goodIn_r _ [19, 20, 8, 9, 5, 10, 25, 26, 27, 28, 29, 30, 31, 32, 33, 34, 35, 36, 37, 38, 39, 40, 41, 42, 43, 44, 45, 46] (by decide +kernel) (by decide +kernel)
set_option maxRecDepth 20000 in
theorem gX10_put_X10_noCell : GoodIn wsX10_put (wsV RX10 196 RX10 yX10_noCell wsX10_noCell) := goodIn_app (goodIn_of _ (by decide +kernel)) ggX10_put_X10_noCell
set_option maxRecDepth 20000 in
theorem ggX10_put_X10_failed : GoodIn wsX10_put wsX10_failed := goodIn_r _ [24, 15, 25, 26, 27, 28, 29, 30, 31, 32, 33, 34, 35, 36, 37, 38, 39, 40, 41, 42, 43, 44, 45, 46] (by decide +kernel) (by decide +kernel)
set_option maxRecDepth 20000 in
theorem gX10_put_X10_failed : GoodIn wsX10_put (wsV RX10 86 RX10 yX10_failed wsX10_failed) := goodIn_app (goodIn_of _ (by decide +kernel)) ggX10_put_X10_failed
set_option maxRecDepth 20000 in
theorem ggX10_cell_X10_noSheet : GoodIn wsX10_cell wsX10_noSheet := goodIn_r _ [9, 10, 11, 12, 8, 13] (by decide +kernel) (by decide +kernel)
set_option maxRecDepth 20000 in
theorem gX10_cell_X10_noSheet : GoodIn wsX10_cell (va_wsS RX10 72 yX10_noSheet wsX10_noSheet) := goodIn_app (goodIn_of _ (by decide +kernel)) ggX10_cell_X10_noSheet
set_option maxRecDepth 20000 in
theorem ggX10_cell_X10_in : GoodIn wsX10_cell wsX10_in := goodIn_r _ [13] (by decide +kernel) (by decide +kernel)
set_option maxRecDepth 20000 in
theorem gX10_cell_X10_in : GoodIn wsX10_cell (va_wsS RX10 82 yX10_in wsX10_in) := goodIn_app (goodIn_of _ (by decide +kernel)) ggX10_cell_X10_in
set_option maxRecDepth 20000 in
theorem ggX10_cell_X10_nothing : GoodIn wsX10_cell wsX10_nothing := goodIn_r _ [16, 17] (by decide +kernel) (by decide +kernel)
set_option maxRecDepth 20000 in
theorem gX10_cell_X10_nothing : GoodIn wsX10_cell (va_wsS RX10 68 yX10_nothing wsX10_nothing) := goodIn_app (goodIn_of _ (by decide +kernel)) ggX10_cell_X10_nothing
set_option maxRecDepth 20000 in
theorem ggX10_cell_X10_failedLong : GoodIn wsX10_cell wsX10_failedLong := goodIn_r _ [21, 1, 14, 15, 8, 16, 17, 26, 27, 28, 29, 30, 31, 32, 33, 34, 35, 36, 37, 38, 39, 40, 41, 42, 43, 44, 45, 46, 47] (by decide +kernel) (by decide +kernel)
set_option maxRecDepth 20000 in
theorem gX10_cell_X10_failedLong : GoodIn wsX10_cell (wsV RX10 199 RX10 yX10_failedLong wsX10_failedLong) := goodIn_app (goodIn_of _ (by decide +kernel)) ggX10_cell_X10_failedLong
set_option maxRecDepth 20000 in
theorem ggX10_cell_X10_noCell : GoodIn wsX10_cell wsX10_noCell := goodIn_r _ [25, 3, 11, 12, 8, 13, 26, 27, 28, 29, 30, 31, 32, 33, 34, 35, 36, 37, 38, 39, 40, 41, 42, 43, 44, 45, 46, 47] (by decide +kernel) (by decide +kernel)
set_option maxRecDepth 20000 in
theorem gX10_cell_X10_noCell : GoodIn wsX10_cell (wsV RX10 196 RX10 yX10_noCell wsX10_noCell) := goodIn_app (goodIn_of _ (by decide +kernel)) ggX10_cell_X10_noCell
set_option maxRecDepth 20000 in
theorem ggX10_copy_X10_noSheet : GoodIn wsX10_copy wsX10_noSheet := goodIn_r _ [8, 9, 10, 11, 7, 12] (by decide +kernel) (by decide +kernel)
set_option maxRecDepth 20000 in
theorem gX10_copy_X10_noSheet : GoodIn wsX10_copy (va_wsS RX10 72 yX10_noSheet wsX10_noSheet) := goodIn_app (goodIn_of _ (by decide +kernel)) ggX10_copy_X10_noSheet
set_option maxRecDepth 20000 in
theorem ggX10_copy_X10_refused : GoodIn wsX10_copy wsX10_refused := goodIn_r _ [16, 17, 25, 26, 27, 28, 29, 30, 31, 32, 33, 34, 35, 36, 37, 38, 39, 40, 41, 42, 43, 44, 45, 46] (by decide +kernel) (by decide +kernel)
set_option maxRecDepth 20000 in
theorem gX10_copy_X10_refused : GoodIn wsX10_copy (wsV RX10 76 RX10 yX10_refused wsX10_refused) := goodIn_app (goodIn_of _ (by decide +kernel)) ggX10_copy_X10_refused
set_option maxRecDepth 20000 in
theorem ggX10_copy_X10_failed : GoodIn wsX10_copy wsX10_failed := goodIn_r _ [21, 17, 25, 26, 27, 28, 29, 30, 31, 32, 33, 34, 35, 36, 37, 38, 39, 40, 41, 42, 43, 44, 45, 46] (by decide +kernel) (by decide +kernel)
set_option maxRecDepth 20000 in
theorem gX10_copy_X10_failed : GoodIn wsX10_copy (wsV RX10 86 RX10 yX10_failed wsX10_failed) := goodIn_app (goodIn_of _ (by decide +kernel)) ggX10_copy_X10_failed
set_option maxRecDepth 20000 in
theorem ggX10_copy_X10_isBeyond : GoodIn wsX10_copy wsX10_isBeyond := goodIn_r _ [24] (by decide +kernel) (by decide +kernel)
set_option maxRecDepth 20000 in
theorem gX10_copy_X10_isBeyond : GoodIn wsX10_copy (va_wsS RX10 89 yX10_isBeyond wsX10_isBeyond) := goodIn_app (goodIn_of _ (by decide +kernel)) ggX10_copy_X10_isBeyond
set_option maxRecDepth 20000 in
theorem ggX10_tell_X10_noOne : GoodIn wsX10_tell wsX10_noOne := goodIn_r _ [7, 8, 9, 10, 6, 11, 17, 18, 19, 20, 21, 22, 23, 24, 25, 26, 27, 28, 29, 30, 31, 32, 33, 34, 35, 36, 37, 38] (by decide +kernel) (by decide +kernel)
set_option maxRecDepth 20000 in
theorem gX10_tell_X10_noOne : GoodIn wsX10_tell (wsV RX10 127 RX10 yX10_noOne wsX10_noOne) := goodIn_app (goodIn_of _ (by decide +kernel)) ggX10_tell_X10_noOne
set_option maxRecDepth 20000 in
theorem ggX10_tell_X10_traced : GoodIn wsX10_tell wsX10_traced := goodIn_r _ [15, 16, 17, 18, 19, 20, 21, 22, 23, 24, 25, 26, 27, 28, 29, 30, 31, 32, 33, 34, 35, 36, 37, 38] (by decide +kernel) (by decide +kernel)
set_option maxRecDepth 20000 in
theorem gX10_tell_X10_traced : GoodIn wsX10_tell (wsV RX10 206 RX10 yX10_traced wsX10_traced) := goodIn_app (goodIn_of _ (by decide +kernel)) ggX10_tell_X10_traced
set_option maxRecDepth 20000 in
theorem ggX10_mourn_X10_noOne : GoodIn wsX10_mourn wsX10_noOne := goodIn_r _ [6, 7, 8, 9, 5, 10, 16, 17, 18, 19, 20, 21, 22, 23, 24, 25, 26, 27, 28, 29, 30, 31, 32, 33, 34, 35, 36, 37] (by decide +kernel) (by decide +kernel)
set_option maxRecDepth 20000 in
theorem gX10_mourn_X10_noOne : GoodIn wsX10_mourn (wsV RX10 127 RX10 yX10_noOne wsX10_noOne) := goodIn_app (goodIn_of _ (by decide +kernel)) ggX10_mourn_X10_noOne
set_option maxRecDepth 20000 in
theorem ggX10_mourn_X10_traced : GoodIn wsX10_mourn wsX10_traced := goodIn_r _ [14, 15, 16, 17, 18, 19, 20, 21, 22, 23, 24, 25, 26, 27, 28, 29, 30, 31, 32, 33, 34, 35, 36, 37] (by decide +kernel) (by decide +kernel)
set_option maxRecDepth 20000 in
theorem gX10_mourn_X10_traced : GoodIn wsX10_mourn (wsV RX10 206 RX10 yX10_traced wsX10_traced) := goodIn_app (goodIn_of _ (by decide +kernel)) ggX10_mourn_X10_traced
set_option maxRecDepth 20000 in
theorem ggX10_as_X10_noOne : GoodIn wsX10_as wsX10_noOne := goodIn_r _ [7, 8, 9, 10, 6, 11, 21, 22, 23, 24, 25, 26, 27, 28, 29, 30, 31, 32, 33, 34, 35, 36, 37, 38, 39, 40, 41, 42] (by decide +kernel) (by decide +kernel)
set_option maxRecDepth 20000 in
theorem gX10_as_X10_noOne : GoodIn wsX10_as (wsV RX10 127 RX10 yX10_noOne wsX10_noOne) := goodIn_app (goodIn_of _ (by decide +kernel)) ggX10_as_X10_noOne
set_option maxRecDepth 20000 in
theorem ggX10_as_X10_refused : GoodIn wsX10_as wsX10_refused := goodIn_r _ [15, 16, 21, 22, 23, 24, 25, 26, 27, 28, 29, 30, 31, 32, 33, 34, 35, 36, 37, 38, 39, 40, 41, 42] (by decide +kernel) (by decide +kernel)
set_option maxRecDepth 20000 in
theorem gX10_as_X10_refused : GoodIn wsX10_as (wsV RX10 76 RX10 yX10_refused wsX10_refused) := goodIn_app (goodIn_of _ (by decide +kernel)) ggX10_as_X10_refused
set_option maxRecDepth 20000 in
theorem ggX10_as_X10_in : GoodIn wsX10_as wsX10_in := goodIn_r _ [11] (by decide +kernel) (by decide +kernel)
set_option maxRecDepth 20000 in
theorem gX10_as_X10_in : GoodIn wsX10_as (va_wsS RX10 82 yX10_in wsX10_in) := goodIn_app (goodIn_of _ (by decide +kernel)) ggX10_as_X10_in
set_option maxRecDepth 20000 in
theorem ggX10_as_X10_failed : GoodIn wsX10_as wsX10_failed := goodIn_r _ [20, 16, 21, 22, 23, 24, 25, 26, 27, 28, 29, 30, 31, 32, 33, 34, 35, 36, 37, 38, 39, 40, 41, 42] (by decide +kernel) (by decide +kernel)
set_option maxRecDepth 20000 in
theorem gX10_as_X10_failed : GoodIn wsX10_as (wsV RX10 86 RX10 yX10_failed wsX10_failed) := goodIn_app (goodIn_of _ (by decide +kernel)) ggX10_as_X10_failed
