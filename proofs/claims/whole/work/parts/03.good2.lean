set_option maxRecDepth 20000 in
theorem gX9_say_X9_fewestWords : GoodIn wsX9_say (wsV RX9 114 RX9 yX9_fewestWords wsX9_fewestWords) := goodIn_app (goodIn_of _ (by decide +kernel)) ggX9_say_X9_fewestWords
set_option maxRecDepth 20000 in
theorem ggX9_say_X9_numberAt : GoodIn wsX9_say wsX9_numberAt := goodIn_r _ [96, 15, 16, 97, 98, 99, 21, 100, 23, 31, 32, 33, 34, 35, 72, 73, 74, 75, 40, 76, 77, 78, 79, 80, 36, 37, 38, 39, 41, 42, 43, 44, 45, 46, 47, 48, 49, 50, 51, 52, 53, 54, 55, 56, 57, 58, 59, 60, 61, 62, 63, 64, 65, 66, 67, 68, 69, 70, 71, 101, 90, 91, 27, 92, 29, 30, 102, 103, 104, 105, 106, 107, 108, 109, 110, 111, 113, 114, 115, 116, 117, 118, 119, 120, 121, 122, 123, 124, 112] (by decide +kernel) (by decide +kernel)
set_option maxRecDepth 20000 in
theorem gX9_say_X9_numberAt : GoodIn wsX9_say (wsV RX9 117 RX9 yX9_numberAt wsX9_numberAt) := goodIn_app (goodIn_of _ (by decide +kernel)) ggX9_say_X9_numberAt
set_option maxRecDepth 20000 in
theorem ggX9_turned_X9_isDay : GoodIn wsX9_turned wsX9_isDay := goodIn_r _ [4] (by decide +kernel) (by decide +kernel)
set_option maxRecDepth 20000 in
theorem gX9_turned_X9_isDay : GoodIn wsX9_turned (va_wsS RX9 93 yX9_isDay wsX9_isDay) := goodIn_app (goodIn_of _ (by decide +kernel)) ggX9_turned_X9_isDay
set_option maxRecDepth 20000 in
theorem ggX9_turned_X9_refusalOfRow : GoodIn wsX9_turned wsX9_refusalOfRow := goodIn_r _ [8, 9, 10, 11, 12, 13, 3, 14, 15, 16, 17, 18, 19, 20, 21, 22, 23, 24, 25, 26, 27, 28, 29, 30, 31, 32, 33, 34, 35, 36, 37, 38, 39, 40, 41, 42, 43, 44, 45, 46, 47, 48, 49, 50, 51, 52, 53, 54, 55, 56, 57, 58, 59, 60, 61, 62, 63, 64, 65, 66, 67, 68, 155, 156, 157, 158, 159, 160, 161, 162, 163, 164, 165, 166, 167] (by decide +kernel) (by decide +kernel)
set_option maxRecDepth 20000 in
theorem gX9_turned_X9_refusalOfRow : GoodIn wsX9_turned (wsV RX9 104 RX9 yX9_refusalOfRow wsX9_refusalOfRow) := goodIn_app (goodIn_of _ (by decide +kernel)) ggX9_turned_X9_refusalOfRow
set_option maxRecDepth 20000 in
theorem ggX9_turned_X9_meaning : GoodIn wsX9_turned wsX9_meaning := goodIn_r _ [72, 9, 10, 53, 54, 55, 32, 56, 57, 58, 59, 60, 61, 48, 49, 50, 51, 52, 62, 63, 64, 65, 66, 67, 68, 73, 74, 75, 76, 77, 78, 79, 80, 81, 82, 83, 84, 85, 86, 87, 88, 89, 90, 91, 92, 93, 94, 95, 96, 97, 98, 99, 100, 101, 102, 103, 104, 105, 106, 107, 108, 109, 110, 111, 112, 113, 114, 115, 116, 117, 155, 156, 157, 158, 159, 160, 161, 162, 163, 164, 165, 166, 167, 168, 169, 170, 171, 172, 173, 174, 175, 176, 177, 178, 179] (by decide +kernel) (by decide +kernel)
set_option maxRecDepth 20000 in
theorem gX9_turned_X9_meaning : GoodIn wsX9_turned (wsV RX9 107 RX9 yX9_meaning wsX9_meaning) := goodIn_app (goodIn_of _ (by decide +kernel)) ggX9_turned_X9_meaning
set_option maxRecDepth 20000 in
theorem ggX9_turned_X9_isQuantity : GoodIn wsX9_turned wsX9_isQuantity := goodIn_r _ [120] (by decide +kernel) (by decide +kernel)
set_option maxRecDepth 20000 in
theorem gX9_turned_X9_isQuantity : GoodIn wsX9_turned (va_wsS RX9 111 yX9_isQuantity wsX9_isQuantity) := goodIn_app (goodIn_of _ (by decide +kernel)) ggX9_turned_X9_isQuantity
set_option maxRecDepth 20000 in
theorem ggX9_turned_X9_fewestWords : GoodIn wsX9_turned wsX9_fewestWords := goodIn_r _ [124, 9, 125, 126, 127, 128, 129, 65, 130, 67, 131, 132, 133, 134, 135, 136, 137, 138, 63, 64, 66, 68, 139, 74, 75, 76, 77, 78, 79, 80, 81, 82, 83, 84, 85, 86, 87, 88, 89, 90, 91, 92, 93, 94, 95, 96, 97, 98, 99, 100, 101, 102, 103, 104, 105, 106, 140, 108, 141, 110, 111, 112, 113, 114, 115, 142, 117, 143, 144, 145, 146, 147, 148, 149, 150, 151, 152, 153, 154, 155, 156, 157, 158, 159, 160, 161, 162, 166, 167, 180, 168, 169, 170, 171, 172, 173, 174, 175, 176, 177, 178, 179] (by decide +kernel) (by decide +kernel)
set_option maxRecDepth 20000 in
theorem gX9_turned_X9_fewestWords : GoodIn wsX9_turned (wsV RX9 114 RX9 yX9_fewestWords wsX9_fewestWords) := goodIn_app (goodIn_of _ (by decide +kernel)) ggX9_turned_X9_fewestWords
set_option maxRecDepth 20000 in
theorem ggX9_child_X9_isDay : GoodIn wsX9_child wsX9_isDay := goodIn_r _ [6] (by decide +kernel) (by decide +kernel)
set_option maxRecDepth 20000 in
theorem gX9_child_X9_isDay : GoodIn wsX9_child (va_wsS RX9 93 yX9_isDay wsX9_isDay) := goodIn_app (goodIn_of _ (by decide +kernel)) ggX9_child_X9_isDay
set_option maxRecDepth 20000 in
theorem ggX9_child_X9_isWords : GoodIn wsX9_child wsX9_isWords := goodIn_r _ [9] (by decide +kernel) (by decide +kernel)
set_option maxRecDepth 20000 in
theorem gX9_child_X9_isWords : GoodIn wsX9_child (va_wsS RX9 121 yX9_isWords wsX9_isWords) := goodIn_app (goodIn_of _ (by decide +kernel)) ggX9_child_X9_isWords
set_option maxRecDepth 20000 in
theorem ggX9_child_X9_refusalOfCells : GoodIn wsX9_child wsX9_refusalOfCells := goodIn_r _ [13, 14, 15, 16, 17, 5, 18, 19, 20, 21, 22, 23, 24, 25, 26, 27, 28, 29, 30, 31, 32, 33, 34, 35, 36, 37, 38, 39, 40, 41, 42, 43, 44, 45, 46, 47, 48, 49, 50, 51, 52, 156, 157, 158, 159, 160, 161, 162, 163, 164, 165, 166] (by decide +kernel) (by decide +kernel)
set_option maxRecDepth 20000 in
theorem gX9_child_X9_refusalOfCells : GoodIn wsX9_child (wsV RX9 60 RX9 yX9_refusalOfCells wsX9_refusalOfCells) := goodIn_app (goodIn_of _ (by decide +kernel)) ggX9_child_X9_refusalOfCells
set_option maxRecDepth 20000 in
theorem ggX9_child_X9_areBargains : GoodIn wsX9_child wsX9_areBargains := goodIn_r _ [56, 15, 57, 58, 59, 32, 60, 61, 62, 63, 64, 65, 48, 49, 50, 51, 52, 66, 67, 5, 68, 156, 157, 158, 159, 160, 161, 162, 163, 164, 165, 166] (by decide +kernel) (by decide +kernel)
set_option maxRecDepth 20000 in
theorem gX9_child_X9_areBargains : GoodIn wsX9_child (wsV RX9 124 RX9 yX9_areBargains wsX9_areBargains) := goodIn_app (goodIn_of _ (by decide +kernel)) ggX9_child_X9_areBargains
set_option maxRecDepth 20000 in
theorem ggX9_child_X4_teach : GoodIn wsX9_child wsX4_teach := goodIn_r _ [73, 74, 75, 76, 77, 78, 79, 80, 81, 82, 83, 84, 72, 85, 86, 87, 88, 89, 90, 91, 92, 93, 94, 95, 96, 97, 98, 99, 100, 101, 102, 103, 104, 105, 106, 107, 108, 109, 110, 111, 112, 113, 114, 115, 116, 117, 118, 119, 120, 121, 122, 123, 124, 125, 126, 127, 128, 129, 130, 131, 132, 133, 134, 135, 136, 137, 138, 139, 167, 168, 169, 170, 171, 172, 173, 174, 175, 176, 177, 178, 179, 180, 181] (by decide +kernel) (by decide +kernel)
set_option maxRecDepth 20000 in
theorem gX9_child_X4_teach : GoodIn wsX9_child (wsV RX9 128 RX4 yX4_teach wsX4_teach) := goodIn_app (goodIn_of _ (by decide +kernel)) ggX9_child_X4_teach
set_option maxRecDepth 20000 in
theorem ggX9_child_X9_bargainsSaid : GoodIn wsX9_child wsX9_bargainsSaid := goodIn_r _ [143, 2, 15, 57, 58, 59, 32, 60, 61, 62, 63, 64, 65, 48, 49, 50, 51, 52, 144, 145, 146, 78, 147, 148, 149, 150, 151, 152, 153, 154, 155, 80, 81, 156, 157, 158, 159, 160, 161, 162, 163, 164, 165, 166, 169] (by decide +kernel) (by decide +kernel)
set_option maxRecDepth 20000 in
theorem gX9_child_X9_bargainsSaid : GoodIn wsX9_child (wsV RX9 132 RX9 yX9_bargainsSaid wsX9_bargainsSaid) := goodIn_app (goodIn_of _ (by decide +kernel)) ggX9_child_X9_bargainsSaid
set_option maxRecDepth 20000 in
theorem ggX9_both_X9_isQuantity : GoodIn wsX9_both wsX9_isQuantity := goodIn_r _ [7] (by decide +kernel) (by decide +kernel)
set_option maxRecDepth 20000 in
theorem gX9_both_X9_isQuantity : GoodIn wsX9_both (va_wsS RX9 111 yX9_isQuantity wsX9_isQuantity) := goodIn_app (goodIn_of _ (by decide +kernel)) ggX9_both_X9_isQuantity
set_option maxRecDepth 20000 in
theorem ggX9_both_X9_isWords : GoodIn wsX9_both wsX9_isWords := goodIn_r _ [10] (by decide +kernel) (by decide +kernel)
set_option maxRecDepth 20000 in
theorem gX9_both_X9_isWords : GoodIn wsX9_both (va_wsS RX9 121 yX9_isWords wsX9_isWords) := goodIn_app (goodIn_of _ (by decide +kernel)) ggX9_both_X9_isWords
set_option maxRecDepth 20000 in
theorem ggX9_both_X9_isDay : GoodIn wsX9_both wsX9_isDay := goodIn_r _ [13] (by decide +kernel) (by decide +kernel)
set_option maxRecDepth 20000 in
theorem gX9_both_X9_isDay : GoodIn wsX9_both (va_wsS RX9 93 yX9_isDay wsX9_isDay) := goodIn_app (goodIn_of _ (by decide +kernel)) ggX9_both_X9_isDay
set_option maxRecDepth 20000 in
theorem ggX9_both_X4_teach : GoodIn wsX9_both wsX4_teach := goodIn_r _ [18, 19, 20, 21, 22, 23, 24, 25, 26, 27, 28, 29, 17, 30, 31, 32, 33, 34, 35, 36, 37, 38, 39, 40, 41, 42, 43, 44, 45, 46, 47, 48, 49, 50, 51, 52, 53, 54, 55, 56, 57, 58, 59, 60, 61, 62, 63, 64, 65, 66, 67, 68, 69, 70, 71, 72, 73, 74, 75, 76, 77, 78, 79, 80, 81, 82, 83, 84, 101, 102, 103, 104, 105, 106, 107, 108, 109, 110, 111, 112, 113, 114, 115] (by decide +kernel) (by decide +kernel)
set_option maxRecDepth 20000 in
theorem gX9_both_X4_teach : GoodIn wsX9_both (wsV RX9 128 RX4 yX4_teach wsX4_teach) := goodIn_app (goodIn_of _ (by decide +kernel)) ggX9_both_X4_teach
set_option maxRecDepth 20000 in
theorem ggX9_both_X0_within : GoodIn wsX9_both wsX0_within := goodIn_r _ [88, 89, 90, 91, 23, 92, 25, 26, 103] (by decide +kernel) (by decide +kernel)
set_option maxRecDepth 20000 in
theorem gX9_both_X0_within : GoodIn wsX9_both (wsV RX9 135 RX0 yX0_within wsX0_within) := goodIn_app (goodIn_of _ (by decide +kernel)) ggX9_both_X0_within
set_option maxRecDepth 20000 in
theorem ggX9_written_X9_refusalOfRow : GoodIn wsX9_written wsX9_refusalOfRow := goodIn_r _ [5, 6, 7, 8, 9, 10, 4, 11, 12, 13, 14, 15, 16, 17, 18, 19, 20, 21, 22, 23, 24, 25, 26, 27, 28, 29, 30, 31, 32, 33, 34, 35, 36, 37, 38, 39, 40, 41, 42, 43, 44, 45, 46, 47, 48, 49, 50, 51, 52, 53, 54, 55, 56, 57, 58, 59, 60, 61, 62, 63, 64, 65, 115, 116, 117, 118, 119, 120, 121, 122, 123, 124, 125, 126, 127] (by decide +kernel) (by decide +kernel)
set_option maxRecDepth 20000 in
theorem gX9_written_X9_refusalOfRow : GoodIn wsX9_written (wsV RX9 104 RX9 yX9_refusalOfRow wsX9_refusalOfRow) := goodIn_app (goodIn_of _ (by decide +kernel)) ggX9_written_X9_refusalOfRow
set_option maxRecDepth 20000 in
theorem ggX9_written_X9_meaning : GoodIn wsX9_written wsX9_meaning := goodIn_r _ [69, 6, 7, 50, 51, 52, 29, 53, 54, 55, 56, 57, 58, 45, 46, 47, 48, 49, 59, 60, 61, 62, 63, 64, 65, 70, 71, 72, 73, 74, 75, 76, 77, 78, 79, 80, 81, 82, 83, 84, 85, 86, 87, 88, 89, 90, 91, 92, 93, 94, 95, 96, 97, 98, 99, 100, 101, 102, 103, 104, 105, 106, 107, 108, 109, 110, 111, 112, 113, 114, 115, 116, 117, 118, 119, 120, 121, 122, 123, 124, 125, 126, 127, 128, 129, 130, 131, 132, 133, 134, 135, 136, 137, 138, 139] (by decide +kernel) (by decide +kernel)
set_option maxRecDepth 20000 in
theorem gX9_written_X9_meaning : GoodIn wsX9_written (wsV RX9 107 RX9 yX9_meaning wsX9_meaning) := goodIn_app (goodIn_of _ (by decide +kernel)) ggX9_written_X9_meaning
set_option maxRecDepth 20000 in
theorem ggX9_lost_X4_one : GoodIn wsX9_lost wsX4_one := goodIn_r _ [8, 9, 10, 102, 103] (by decide +kernel) (by decide +kernel)
set_option maxRecDepth 20000 in
theorem gX9_lost_X4_one : GoodIn wsX9_lost (wsV RX9 79 RX4 yX4_one wsX4_one) := goodIn_app (goodIn_of _ (by decide +kernel)) ggX9_lost_X4_one
set_option maxRecDepth 20000 in
theorem ggX9_lost_X9_isVillage : GoodIn wsX9_lost wsX9_isVillage := goodIn_r _ [14] (by decide +kernel) (by decide +kernel)
set_option maxRecDepth 20000 in
theorem gX9_lost_X9_isVillage : GoodIn wsX9_lost (va_wsS RX9 89 yX9_isVillage wsX9_isVillage) := goodIn_app (goodIn_of _ (by decide +kernel)) ggX9_lost_X9_isVillage
set_option maxRecDepth 20000 in
theorem ggX9_lost_X9_isDay : GoodIn wsX9_lost wsX9_isDay := goodIn_r _ [17] (by decide +kernel) (by decide +kernel)
set_option maxRecDepth 20000 in
theorem gX9_lost_X9_isDay : GoodIn wsX9_lost (va_wsS RX9 93 yX9_isDay wsX9_isDay) := goodIn_app (goodIn_of _ (by decide +kernel)) ggX9_lost_X9_isDay
set_option maxRecDepth 20000 in
theorem ggX9_lost_X9_isWords : GoodIn wsX9_lost wsX9_isWords := goodIn_r _ [20] (by decide +kernel) (by decide +kernel)
set_option maxRecDepth 20000 in
theorem gX9_lost_X9_isWords : GoodIn wsX9_lost (va_wsS RX9 121 yX9_isWords wsX9_isWords) := goodIn_app (goodIn_of _ (by decide +kernel)) ggX9_lost_X9_isWords
set_option maxRecDepth 20000 in
theorem ggX9_lost_X4_teach : GoodIn wsX9_lost wsX4_teach := goodIn_r _ [24, 9, 25, 26, 27, 28, 29, 30, 31, 32, 5, 6, 7, 8, 10, 33, 34, 35, 36, 37, 38, 39, 40, 41, 42, 43, 44, 45, 46, 47, 48, 49, 50, 51, 52, 53, 54, 55, 56, 57, 58, 59, 60, 61, 62, 63, 64, 65, 66, 67, 68, 69, 70, 71, 72, 73, 74, 75, 76, 77, 78, 79, 80, 81, 82, 83, 84, 85, 102, 103, 104, 105, 106, 107, 108, 109, 110, 111, 112, 113, 114, 115, 116] (by decide +kernel) (by decide +kernel)
set_option maxRecDepth 20000 in
theorem gX9_lost_X4_teach : GoodIn wsX9_lost (wsV RX9 128 RX4 yX4_teach wsX4_teach) := goodIn_app (goodIn_of _ (by decide +kernel)) ggX9_lost_X4_teach
set_option maxRecDepth 20000 in
theorem ggX9_lost_X0_within : GoodIn wsX9_lost wsX0_within := goodIn_r _ [89, 90, 91, 92, 28, 93, 30, 31, 104] (by decide +kernel) (by decide +kernel)
set_option maxRecDepth 20000 in
theorem gX9_lost_X0_within : GoodIn wsX9_lost (wsV RX9 135 RX0 yX0_within wsX0_within) := goodIn_app (goodIn_of _ (by decide +kernel)) ggX9_lost_X0_within
set_option maxRecDepth 20000 in
theorem ggX9_back_X9_isVillage : GoodIn wsX9_back wsX9_isVillage := goodIn_r _ [7] (by decide +kernel) (by decide +kernel)
set_option maxRecDepth 20000 in
theorem gX9_back_X9_isVillage : GoodIn wsX9_back (va_wsS RX9 89 yX9_isVillage wsX9_isVillage) := goodIn_app (goodIn_of _ (by decide +kernel)) ggX9_back_X9_isVillage
set_option maxRecDepth 20000 in
theorem ggX9_back_X9_isQuantity : GoodIn wsX9_back wsX9_isQuantity := goodIn_r _ [10] (by decide +kernel) (by decide +kernel)
set_option maxRecDepth 20000 in
theorem gX9_back_X9_isQuantity : GoodIn wsX9_back (va_wsS RX9 111 yX9_isQuantity wsX9_isQuantity) := goodIn_app (goodIn_of _ (by decide +kernel)) ggX9_back_X9_isQuantity
set_option maxRecDepth 20000 in
theorem ggX9_back_X9_isDay : GoodIn wsX9_back wsX9_isDay := goodIn_r _ [13] (by decide +kernel) (by decide +kernel)
set_option maxRecDepth 20000 in
theorem gX9_back_X9_isDay : GoodIn wsX9_back (va_wsS RX9 93 yX9_isDay wsX9_isDay) := goodIn_app (goodIn_of _ (by decide +kernel)) ggX9_back_X9_isDay
set_option maxRecDepth 20000 in
theorem ggX9_back_X9_isWords : GoodIn wsX9_back wsX9_isWords := goodIn_r _ [16] (by decide +kernel) (by decide +kernel)
set_option maxRecDepth 20000 in
theorem gX9_back_X9_isWords : GoodIn wsX9_back (va_wsS RX9 121 yX9_isWords wsX9_isWords) := goodIn_app (goodIn_of _ (by decide +kernel)) ggX9_back_X9_isWords
set_option maxRecDepth 20000 in
theorem ggX9_back_X4_teach : GoodIn wsX9_back wsX4_teach := goodIn_r _ [21, 22, 23, 24, 25, 26, 27, 28, 29, 30, 31, 32, 20, 33, 34, 35, 36, 37, 38, 39, 40, 41, 42, 43, 44, 45, 46, 47, 48, 49, 50, 51, 52, 53, 54, 55, 56, 57, 58, 59, 60, 61, 62, 63, 64, 65, 66, 67, 68, 69, 70, 71, 72, 73, 74, 75, 76, 77, 78, 79, 80, 81, 82, 83, 84, 85, 86, 87, 142, 143, 144, 145, 146, 147, 148, 149, 150, 151, 152, 153, 154, 155, 156] (by decide +kernel) (by decide +kernel)
set_option maxRecDepth 20000 in
theorem gX9_back_X4_teach : GoodIn wsX9_back (wsV RX9 128 RX4 yX4_teach wsX4_teach) := goodIn_app (goodIn_of _ (by decide +kernel)) ggX9_back_X4_teach
set_option maxRecDepth 20000 in
theorem ggX9_back_X5_search : GoodIn wsX9_back wsX5_search := goodIn_r _ [92, 93, 94, 95, 96, 20, 97, 22, 98, 99, 100, 91, 101, 102, 103, 104, 105, 106, 107, 31, 32, 33, 34, 108, 72, 73, 74, 39, 75, 76, 77, 109, 79, 110, 111, 112, 26, 113, 84, 85, 86, 87, 114, 115, 116, 117, 118, 119, 120, 121, 122, 123, 124, 28, 29, 125, 126, 127, 128, 129, 157, 158, 142, 143, 145, 146, 147, 148, 149, 150, 151, 152, 153, 154, 155, 156, 144] (by decide +kernel) (by decide +kernel)
set_option maxRecDepth 20000 in
theorem gX9_back_X5_search : GoodIn wsX9_back (wsV RX9 138 RX5 yX5_search wsX5_search) := goodIn_app (goodIn_of _ (by decide +kernel)) ggX9_back_X5_search
set_option maxRecDepth 20000 in
theorem ggX9_back_X5_calledAt : GoodIn wsX9_back wsX5_calledAt := goodIn_r _ [133, 102, 157, 158] (by decide +kernel) (by decide +kernel)
set_option maxRecDepth 20000 in
theorem gX9_back_X5_calledAt : GoodIn wsX9_back (wsV RX9 142 RX5 yX5_calledAt wsX5_calledAt) := goodIn_app (goodIn_of _ (by decide +kernel)) ggX9_back_X5_calledAt
set_option maxRecDepth 20000 in
theorem ggX9_told_X9_isVillage : GoodIn wsX9_told wsX9_isVillage := goodIn_r _ [7] (by decide +kernel) (by decide +kernel)
set_option maxRecDepth 20000 in
theorem gX9_told_X9_isVillage : GoodIn wsX9_told (va_wsS RX9 89 yX9_isVillage wsX9_isVillage) := goodIn_app (goodIn_of _ (by decide +kernel)) ggX9_told_X9_isVillage
set_option maxRecDepth 20000 in
theorem ggX9_told_X9_isDay : GoodIn wsX9_told wsX9_isDay := goodIn_r _ [10] (by decide +kernel) (by decide +kernel)
set_option maxRecDepth 20000 in
theorem gX9_told_X9_isDay : GoodIn wsX9_told (va_wsS RX9 93 yX9_isDay wsX9_isDay) := goodIn_app (goodIn_of _ (by decide +kernel)) ggX9_told_X9_isDay
set_option maxRecDepth 20000 in
theorem ggX9_told_X9_isWords : GoodIn wsX9_told wsX9_isWords := goodIn_r _ [13] (by decide +kernel) (by decide +kernel)
set_option maxRecDepth 20000 in
theorem gX9_told_X9_isWords : GoodIn wsX9_told (va_wsS RX9 121 yX9_isWords wsX9_isWords) := goodIn_app (goodIn_of _ (by decide +kernel)) ggX9_told_X9_isWords
set_option maxRecDepth 20000 in
theorem ggX9_told_X4_teach : GoodIn wsX9_told wsX4_teach := goodIn_r _ [18, 19, 20, 21, 22, 23, 24, 25, 26, 27, 28, 29, 17, 30, 31, 32, 33, 34, 35, 36, 37, 38, 39, 40, 41, 42, 43, 44, 45, 46, 47, 48, 49, 50, 51, 52, 53, 54, 55, 56, 57, 58, 59, 60, 61, 62, 63, 64, 65, 66, 67, 68, 69, 70, 71, 72, 73, 74, 75, 76, 77, 78, 79, 80, 81, 82, 83, 84, 104, 105, 106, 107, 108, 109, 110, 111, 112, 113, 114, 115, 116, 117, 118] (by decide +kernel) (by decide +kernel)
set_option maxRecDepth 20000 in
theorem gX9_told_X4_teach : GoodIn wsX9_told (wsV RX9 128 RX4 yX4_teach wsX4_teach) := goodIn_app (goodIn_of _ (by decide +kernel)) ggX9_told_X4_teach
set_option maxRecDepth 20000 in
theorem ggX9_told_X0_within : GoodIn wsX9_told wsX0_within := goodIn_r _ [88, 89, 90, 91, 23, 92, 25, 26, 106] (by decide +kernel) (by decide +kernel)
set_option maxRecDepth 20000 in
theorem gX9_told_X0_within : GoodIn wsX9_told (wsV RX9 135 RX0 yX0_within wsX0_within) := goodIn_app (goodIn_of _ (by decide +kernel)) ggX9_told_X0_within
set_option maxRecDepth 20000 in
theorem ggX9_told_X9_reduced : GoodIn wsX9_told wsX9_reduced := goodIn_r _ [95] (by decide +kernel) (by decide +kernel)
set_option maxRecDepth 20000 in
theorem gX9_told_X9_reduced : GoodIn wsX9_told (va_wsS RX9 147 yX9_reduced wsX9_reduced) := goodIn_app (goodIn_of _ (by decide +kernel)) ggX9_told_X9_reduced
set_option maxRecDepth 20000 in
theorem ggX9_sheet_X9_isSheet : GoodIn wsX9_sheet wsX9_isSheet := goodIn_r _ [6] (by decide +kernel) (by decide +kernel)
set_option maxRecDepth 20000 in
theorem gX9_sheet_X9_isSheet : GoodIn wsX9_sheet (va_wsS RX9 151 yX9_isSheet wsX9_isSheet) := goodIn_app (goodIn_of _ (by decide +kernel)) ggX9_sheet_X9_isSheet
set_option maxRecDepth 20000 in
theorem ggX9_sheet_X9_isLane : GoodIn wsX9_sheet wsX9_isLane := goodIn_r _ [9] (by decide +kernel) (by decide +kernel)
set_option maxRecDepth 20000 in
theorem gX9_sheet_X9_isLane : GoodIn wsX9_sheet (va_wsS RX9 154 yX9_isLane wsX9_isLane) := goodIn_app (goodIn_of _ (by decide +kernel)) ggX9_sheet_X9_isLane
set_option maxRecDepth 20000 in
theorem ggX9_sheet_X9_faulted : GoodIn wsX9_sheet wsX9_faulted := goodIn_r _ [13, 1, 41, 42, 43, 44, 45, 46, 47, 48] (by decide +kernel) (by decide +kernel)
set_option maxRecDepth 20000 in
theorem gX9_sheet_X9_faulted : GoodIn wsX9_sheet (wsV RX9 157 RX9 yX9_faulted wsX9_faulted) := goodIn_app (goodIn_of _ (by decide +kernel)) ggX9_sheet_X9_faulted
set_option maxRecDepth 20000 in
theorem ggX9_sheet_X7_renew : GoodIn wsX9_sheet wsX7_renew := goodIn_r _ [18, 19, 20, 21, 22, 23, 17, 24, 25, 26, 27, 28, 29, 30, 31, 32, 33, 34, 35, 36, 37, 38, 39, 40, 49, 50, 51] (by decide +kernel) (by decide +kernel)
set_option maxRecDepth 20000 in
theorem gX9_sheet_X7_renew : GoodIn wsX9_sheet (wsV RX9 160 RX7 yX7_renew wsX7_renew) := goodIn_app (goodIn_of _ (by decide +kernel)) ggX9_sheet_X7_renew
set_option maxRecDepth 20000 in
theorem ggX9_lose_X9_isSheet : GoodIn wsX9_lose wsX9_isSheet := goodIn_r _ [5] (by decide +kernel) (by decide +kernel)
set_option maxRecDepth 20000 in
theorem gX9_lose_X9_isSheet : GoodIn wsX9_lose (va_wsS RX9 151 yX9_isSheet wsX9_isSheet) := goodIn_app (goodIn_of _ (by decide +kernel)) ggX9_lose_X9_isSheet
set_option maxRecDepth 20000 in
theorem ggX9_lose_X7_hasRow : GoodIn wsX9_lose wsX7_hasRow := goodIn_r _ [10, 11, 12, 13, 9, 14, 15, 49, 50, 51] (by decide +kernel) (by decide +kernel)
set_option maxRecDepth 20000 in
theorem gX9_lose_X7_hasRow : GoodIn wsX9_lose (wsV RX9 164 RX7 yX7_hasRow wsX7_hasRow) := goodIn_app (goodIn_of _ (by decide +kernel)) ggX9_lose_X7_hasRow
set_option maxRecDepth 20000 in
theorem ggX9_lose_X7_clear : GoodIn wsX9_lose wsX7_clear := goodIn_r _ [19, 20, 21, 22, 9, 23, 15, 24, 25, 26, 27, 28, 29, 30, 31, 32, 33, 34, 35, 36, 37, 11, 12, 13, 14, 38, 39, 40, 49, 50, 51] (by decide +kernel) (by decide +kernel)
set_option maxRecDepth 20000 in
theorem gX9_lose_X7_clear : GoodIn wsX9_lose (wsV RX9 167 RX7 yX7_clear wsX7_clear) := goodIn_app (goodIn_of _ (by decide +kernel)) ggX9_lose_X7_clear
set_option maxRecDepth 20000 in
theorem ggX9_put_X9_isSheet : GoodIn wsX9_put wsX9_isSheet := goodIn_r _ [6] (by decide +kernel) (by decide +kernel)
set_option maxRecDepth 20000 in
theorem gX9_put_X9_isSheet : GoodIn wsX9_put (va_wsS RX9 151 yX9_isSheet wsX9_isSheet) := goodIn_app (goodIn_of _ (by decide +kernel)) ggX9_put_X9_isSheet
set_option maxRecDepth 20000 in
theorem ggX9_put_X7_hasRow : GoodIn wsX9_put wsX7_hasRow := goodIn_r _ [11, 12, 13, 14, 10, 15, 16, 50, 51, 52] (by decide +kernel) (by decide +kernel)
set_option maxRecDepth 20000 in
theorem gX9_put_X7_hasRow : GoodIn wsX9_put (wsV RX9 164 RX7 yX7_hasRow wsX7_hasRow) := goodIn_app (goodIn_of _ (by decide +kernel)) ggX9_put_X7_hasRow
set_option maxRecDepth 20000 in
theorem ggX9_put_X9_faulted : GoodIn wsX9_put wsX9_faulted := goodIn_r _ [20, 1, 42, 43, 44, 45, 46, 47, 48, 49] (by decide +kernel) (by decide +kernel)
set_option maxRecDepth 20000 in
theorem gX9_put_X9_faulted : GoodIn wsX9_put (wsV RX9 157 RX9 yX9_faulted wsX9_faulted) := goodIn_app (goodIn_of _ (by decide +kernel)) ggX9_put_X9_faulted
set_option maxRecDepth 20000 in
theorem ggX9_put_X7_hasCell : GoodIn wsX9_put wsX7_hasCell := goodIn_r _ [24, 25, 26, 27, 10, 28, 29, 30, 31, 32, 33, 34, 50, 51, 52] (by decide +kernel) (by decide +kernel)
set_option maxRecDepth 20000 in
theorem gX9_put_X7_hasCell : GoodIn wsX9_put (wsV RX9 171 RX7 yX7_hasCell wsX7_hasCell) := goodIn_app (goodIn_of _ (by decide +kernel)) ggX9_put_X7_hasCell
set_option maxRecDepth 20000 in
theorem ggX9_put_X7_set : GoodIn wsX9_put wsX7_set := goodIn_r _ [38, 29, 25, 26, 27, 10, 28, 30, 31, 32, 33, 34, 12, 13, 14, 15, 16, 39, 40, 41, 50, 51, 52] (by decide +kernel) (by decide +kernel)
set_option maxRecDepth 20000 in
theorem gX9_put_X7_set : GoodIn wsX9_put (wsV RX9 174 RX7 yX7_set wsX7_set) := goodIn_app (goodIn_of _ (by decide +kernel)) ggX9_put_X7_set
set_option maxRecDepth 20000 in
theorem ggX9_cell_X9_isSheet : GoodIn wsX9_cell wsX9_isSheet := goodIn_r _ [7] (by decide +kernel) (by decide +kernel)
set_option maxRecDepth 20000 in
theorem gX9_cell_X9_isSheet : GoodIn wsX9_cell (va_wsS RX9 151 yX9_isSheet wsX9_isSheet) := goodIn_app (goodIn_of _ (by decide +kernel)) ggX9_cell_X9_isSheet
set_option maxRecDepth 20000 in
theorem ggX9_cell_X9_isLane : GoodIn wsX9_cell wsX9_isLane := goodIn_r _ [10] (by decide +kernel) (by decide +kernel)
set_option maxRecDepth 20000 in
theorem gX9_cell_X9_isLane : GoodIn wsX9_cell (va_wsS RX9 154 yX9_isLane wsX9_isLane) := goodIn_app (goodIn_of _ (by decide +kernel)) ggX9_cell_X9_isLane
set_option maxRecDepth 20000 in
theorem ggX9_cell_X9_faultAs : GoodIn wsX9_cell wsX9_faultAs := goodIn_r _ [14, 3, 15, 16, 17, 18, 19, 20, 21, 22, 23, 24, 25, 44, 45, 46, 47, 48, 49, 50, 51, 52, 53, 54] (by decide +kernel) (by decide +kernel)
set_option maxRecDepth 20000 in
theorem gX9_cell_X9_faultAs : GoodIn wsX9_cell (wsV RX9 177 RX9 yX9_faultAs wsX9_faultAs) := goodIn_app (goodIn_of _ (by decide +kernel)) ggX9_cell_X9_faultAs
set_option maxRecDepth 20000 in
theorem ggX9_cell_X7_hasCell : GoodIn wsX9_cell wsX7_hasCell := goodIn_r _ [29, 30, 31, 32, 18, 33, 34, 35, 36, 37, 38, 39, 52, 53, 54] (by decide +kernel) (by decide +kernel)
set_option maxRecDepth 20000 in
theorem gX9_cell_X7_hasCell : GoodIn wsX9_cell (wsV RX9 171 RX7 yX7_hasCell wsX7_hasCell) := goodIn_app (goodIn_of _ (by decide +kernel)) ggX9_cell_X7_hasCell
set_option maxRecDepth 20000 in
theorem ggX9_cell_X7_at : GoodIn wsX9_cell wsX7_at := goodIn_r _ [43, 34, 30, 31, 32, 18, 33, 35, 36, 37, 38, 39, 52, 53, 54] (by decide +kernel) (by decide +kernel)
set_option maxRecDepth 20000 in
theorem gX9_cell_X7_at : GoodIn wsX9_cell (wsV RX9 180 RX7 yX7_at wsX7_at) := goodIn_app (goodIn_of _ (by decide +kernel)) ggX9_cell_X7_at
set_option maxRecDepth 20000 in
theorem ggX9_copy_X9_isSheet : GoodIn wsX9_copy wsX9_isSheet := goodIn_r _ [6] (by decide +kernel) (by decide +kernel)
set_option maxRecDepth 20000 in
theorem gX9_copy_X9_isSheet : GoodIn wsX9_copy (va_wsS RX9 151 yX9_isSheet wsX9_isSheet) := goodIn_app (goodIn_of _ (by decide +kernel)) ggX9_copy_X9_isSheet
set_option maxRecDepth 20000 in
theorem ggX9_copy_X7_hasRow : GoodIn wsX9_copy wsX7_hasRow := goodIn_r _ [11, 12, 13, 14, 10, 15, 16, 49, 50, 51] (by decide +kernel) (by decide +kernel)
set_option maxRecDepth 20000 in
theorem gX9_copy_X7_hasRow : GoodIn wsX9_copy (wsV RX9 164 RX7 yX7_hasRow wsX7_hasRow) := goodIn_app (goodIn_of _ (by decide +kernel)) ggX9_copy_X7_hasRow
set_option maxRecDepth 20000 in
theorem ggX9_copy_X9_faulted : GoodIn wsX9_copy wsX9_faulted := goodIn_r _ [20, 1, 41, 42, 43, 44, 45, 46, 47, 48] (by decide +kernel) (by decide +kernel)
set_option maxRecDepth 20000 in
theorem gX9_copy_X9_faulted : GoodIn wsX9_copy (wsV RX9 157 RX9 yX9_faulted wsX9_faulted) := goodIn_app (goodIn_of _ (by decide +kernel)) ggX9_copy_X9_faulted
set_option maxRecDepth 20000 in
theorem ggX9_copy_X7_laneOf : GoodIn wsX9_copy wsX7_laneOf := goodIn_r _ [15, 16, 49, 50, 51] (by decide +kernel) (by decide +kernel)
set_option maxRecDepth 20000 in
theorem gX9_copy_X7_laneOf : GoodIn wsX9_copy (wsV RX9 183 RX7 yX7_laneOf wsX7_laneOf) := goodIn_app (goodIn_of _ (by decide +kernel)) ggX9_copy_X7_laneOf
set_option maxRecDepth 20000 in
theorem ggX9_copy_X7_hasCells : GoodIn wsX9_copy wsX7_hasCells := goodIn_r _ [25, 26, 27, 28, 10, 29, 30, 49, 50, 51] (by decide +kernel) (by decide +kernel)
set_option maxRecDepth 20000 in
theorem gX9_copy_X7_hasCells : GoodIn wsX9_copy (wsV RX9 186 RX7 yX7_hasCells wsX7_hasCells) := goodIn_app (goodIn_of _ (by decide +kernel)) ggX9_copy_X7_hasCells
set_option maxRecDepth 20000 in
theorem ggX9_copy_X7_move : GoodIn wsX9_copy wsX7_move := goodIn_r _ [34, 35, 36, 37, 38, 39, 40, 23, 24, 10, 25, 26, 27, 28, 29, 30, 49, 50, 51] (by decide +kernel) (by decide +kernel)
set_option maxRecDepth 20000 in
theorem gX9_copy_X7_move : GoodIn wsX9_copy (wsV RX9 189 RX7 yX7_move wsX7_move) := goodIn_app (goodIn_of _ (by decide +kernel)) ggX9_copy_X7_move
set_option maxRecDepth 20000 in
theorem ggX9_tell_X4_one : GoodIn wsX9_tell wsX4_one := goodIn_r _ [7, 8, 9, 61, 62] (by decide +kernel) (by decide +kernel)
set_option maxRecDepth 20000 in
theorem gX9_tell_X4_one : GoodIn wsX9_tell (wsV RX9 79 RX4 yX4_one wsX4_one) := goodIn_app (goodIn_of _ (by decide +kernel)) ggX9_tell_X4_one
set_option maxRecDepth 20000 in
theorem ggX9_tell_X1_telling : GoodIn wsX9_tell wsX1_telling := goodIn_r _ [16, 17, 18, 19, 20, 21, 22, 23, 24, 25, 26, 27, 28, 29, 30, 31, 32, 33, 34, 35, 36, 37, 38, 39, 40, 41, 63, 64, 65, 66, 67, 68, 69, 70, 71, 72, 73, 74, 75] (by decide +kernel) (by decide +kernel)
set_option maxRecDepth 20000 in
theorem gX9_tell_X1_telling_u193X1 : GoodIn wsX9_tell (va_wsO RX9 193 RX1 "LivingNumbers$Named" ⟨"LivingNumbers$Named", "telling", "(LLivingNumbers$Trace;)I"⟩ yX1_telling wsX1_telling) := goodIn_app (goodIn_of _ (by decide +kernel)) ggX9_tell_X1_telling
set_option maxRecDepth 20000 in
theorem ggX9_tell_X2_telling : GoodIn wsX9_tell wsX2_telling := goodIn_r _ [28, 29, 18, 19, 20, 21, 22, 30, 31, 32, 33, 34, 35, 36, 37, 38, 63, 64, 65, 66, 67, 68, 69, 70, 71, 72, 73, 74, 75] (by decide +kernel) (by decide +kernel)
set_option maxRecDepth 20000 in
theorem gX9_tell_X2_telling_u193X2 : GoodIn wsX9_tell (va_wsO RX9 193 RX2 "LivingNumbers$Named" ⟨"LivingNumbers$Named", "telling", "(LLivingNumbers$Trace;)I"⟩ yX2_telling wsX2_telling) := goodIn_app (goodIn_of _ (by decide +kernel)) ggX9_tell_X2_telling
set_option maxRecDepth 20000 in
theorem ggX9_tell_X3_telling : GoodIn wsX9_tell wsX3_telling := goodIn_r _ [42, 47, 48, 49, 33, 34, 35, 36, 37, 18, 19, 20, 21, 22, 50, 51, 52, 64, 65, 66, 67, 68, 69, 70, 71, 72, 73, 74, 75, 63] (by decide +kernel) (by decide +kernel)
set_option maxRecDepth 20000 in
theorem gX9_tell_X3_telling : GoodIn wsX9_tell (wsV RX9 193 RX3 yX3_telling wsX3_telling) := goodIn_app (goodIn_of _ (by decide +kernel)) ggX9_tell_X3_telling
set_option maxRecDepth 20000 in
theorem ggX9_mourn_X4_one : GoodIn wsX9_mourn wsX4_one := goodIn_r _ [7, 8, 9, 38, 39] (by decide +kernel) (by decide +kernel)
set_option maxRecDepth 20000 in
theorem gX9_mourn_X4_one : GoodIn wsX9_mourn (wsV RX9 79 RX4 yX4_one wsX4_one) := goodIn_app (goodIn_of _ (by decide +kernel)) ggX9_mourn_X4_one
set_option maxRecDepth 20000 in
theorem ggX9_mourn_X1_mourning : GoodIn wsX9_mourn wsX1_mourning := goodIn_r _ [16, 17, 18, 19, 20, 21, 22, 40] (by decide +kernel) (by decide +kernel)
set_option maxRecDepth 20000 in
theorem gX9_mourn_X1_mourning_u197X1 : GoodIn wsX9_mourn (va_wsO RX9 197 RX1 "LivingNumbers$Named" ⟨"LivingNumbers$Named", "mourning", "(LLivingNumbers$Trace;I)I"⟩ yX1_mourning wsX1_mourning) := goodIn_app (goodIn_of _ (by decide +kernel)) ggX9_mourn_X1_mourning
set_option maxRecDepth 20000 in
theorem ggX9_mourn_X3_mourning : GoodIn wsX9_mourn wsX3_mourning := goodIn_r _ [23, 27, 18, 19, 20, 21, 22, 40] (by decide +kernel) (by decide +kernel)
set_option maxRecDepth 20000 in
theorem gX9_mourn_X3_mourning_u197X2 : GoodIn wsX9_mourn (va_wsU RX9 197 RX2 "LivingNumbers$Named" ⟨"LivingNumbers$Named", "mourning", "(LLivingNumbers$Trace;I)I"⟩ yX3_mourning wsX3_mourning) := goodIn_app (goodIn_of _ (by decide +kernel)) ggX9_mourn_X3_mourning
set_option maxRecDepth 20000 in
theorem gX9_mourn_X3_mourning : GoodIn wsX9_mourn (wsV RX9 197 RX3 yX3_mourning wsX3_mourning) := goodIn_app (goodIn_of _ (by decide +kernel)) ggX9_mourn_X3_mourning
set_option maxRecDepth 20000 in
theorem ggX9_as_X4_one : GoodIn wsX9_as wsX4_one := goodIn_r _ [7, 8, 9, 39, 40] (by decide +kernel) (by decide +kernel)
set_option maxRecDepth 20000 in
theorem gX9_as_X4_one : GoodIn wsX9_as (wsV RX9 79 RX4 yX4_one wsX4_one) := goodIn_app (goodIn_of _ (by decide +kernel)) ggX9_as_X4_one
set_option maxRecDepth 20000 in
theorem ggX9_as_X1_kind : GoodIn wsX9_as wsX1_kind := goodIn_r _ [16] (by decide +kernel) (by decide +kernel)
set_option maxRecDepth 20000 in
theorem gX9_as_X1_kind_u201X1 : GoodIn wsX9_as (va_wsO RX9 201 RX1 "LivingNumbers$Named" ⟨"LivingNumbers$Named", "kind", "()I"⟩ yX1_kind wsX1_kind) := goodIn_app (goodIn_of _ (by decide +kernel)) ggX9_as_X1_kind
set_option maxRecDepth 20000 in
theorem ggX9_as_X2_kind : GoodIn wsX9_as wsX2_kind := goodIn_r _ [21] (by decide +kernel) (by decide +kernel)
set_option maxRecDepth 20000 in
theorem gX9_as_X2_kind_u201X2 : GoodIn wsX9_as (va_wsO RX9 201 RX2 "LivingNumbers$Named" ⟨"LivingNumbers$Named", "kind", "()I"⟩ yX2_kind wsX2_kind) := goodIn_app (goodIn_of _ (by decide +kernel)) ggX9_as_X2_kind
set_option maxRecDepth 20000 in
theorem ggX9_as_X3_kind : GoodIn wsX9_as wsX3_kind := goodIn_r _ [17] (by decide +kernel) (by decide +kernel)
set_option maxRecDepth 20000 in
theorem gX9_as_X3_kind : GoodIn wsX9_as (wsV RX9 201 RX3 yX3_kind wsX3_kind) := goodIn_app (goodIn_of _ (by decide +kernel)) ggX9_as_X3_kind
set_option maxRecDepth 20000 in
theorem ggX9_as_X9_faulted : GoodIn wsX9_as wsX9_faulted := goodIn_r _ [30, 1, 31, 32, 33, 34, 35, 36, 37, 38] (by decide +kernel) (by decide +kernel)
set_option maxRecDepth 20000 in
theorem gX9_as_X9_faulted : GoodIn wsX9_as (wsV RX9 157 RX9 yX9_faulted wsX9_faulted) := goodIn_app (goodIn_of _ (by decide +kernel)) ggX9_as_X9_faulted
set_option maxRecDepth 20000 in
theorem ggX9_trace_X8_left : GoodIn wsX9_trace wsX8_left := goodIn_r _ [6, 7, 16] (by decide +kernel) (by decide +kernel)
set_option maxRecDepth 20000 in
theorem gX9_trace_X8_left : GoodIn wsX9_trace (wsV RX9 204 RX8 yX8_left wsX8_left) := goodIn_app (goodIn_of _ (by decide +kernel)) ggX9_trace_X8_left
set_option maxRecDepth 20000 in
theorem ggX9_many_X4_size : GoodIn wsX9_many wsX4_size := goodIn_r _ [6, 7, 16, 17] (by decide +kernel) (by decide +kernel)
set_option maxRecDepth 20000 in
theorem gX9_many_X4_size : GoodIn wsX9_many (wsV RX9 76 RX4 yX4_size wsX4_size) := goodIn_app (goodIn_of _ (by decide +kernel)) ggX9_many_X4_size
set_option maxRecDepth 20000 in
theorem ggX9_faultAs_X7_hasRow : GoodIn wsX9_faultAs wsX7_hasRow := goodIn_r _ [6, 7, 8, 9, 5, 10, 11, 21, 22, 23] (by decide +kernel) (by decide +kernel)
set_option maxRecDepth 20000 in
theorem gX9_faultAs_X7_hasRow : GoodIn wsX9_faultAs (wsV RX9 164 RX7 yX7_hasRow wsX7_hasRow) := goodIn_app (goodIn_of _ (by decide +kernel)) ggX9_faultAs_X7_hasRow
set_option maxRecDepth 20000 in
theorem ggX9_faultAs_X7_laneOf : GoodIn wsX9_faultAs wsX7_laneOf := goodIn_r _ [10, 11, 21, 22, 23] (by decide +kernel) (by decide +kernel)
set_option maxRecDepth 20000 in
theorem gX9_faultAs_X7_laneOf : GoodIn wsX9_faultAs (wsV RX9 183 RX7 yX7_laneOf wsX7_laneOf) := goodIn_app (goodIn_of _ (by decide +kernel)) ggX9_faultAs_X7_laneOf
set_option maxRecDepth 20000 in
theorem ggX9_refusalOfCells_X9_isVillage : GoodIn wsX9_refusalOfCells wsX9_isVillage := goodIn_r _ [6] (by decide +kernel) (by decide +kernel)
set_option maxRecDepth 20000 in
theorem gX9_refusalOfCells_X9_isVillage : GoodIn wsX9_refusalOfCells (va_wsS RX9 89 yX9_isVillage wsX9_isVillage) := goodIn_app (goodIn_of _ (by decide +kernel)) ggX9_refusalOfCells_X9_isVillage
set_option maxRecDepth 20000 in
theorem ggX9_refusalOfCells_X9_isSheet : GoodIn wsX9_refusalOfCells wsX9_isSheet := goodIn_r _ [9] (by decide +kernel) (by decide +kernel)
set_option maxRecDepth 20000 in
theorem gX9_refusalOfCells_X9_isSheet : GoodIn wsX9_refusalOfCells (va_wsS RX9 151 yX9_isSheet wsX9_isSheet) := goodIn_app (goodIn_of _ (by decide +kernel)) ggX9_refusalOfCells_X9_isSheet
set_option maxRecDepth 20000 in
theorem ggX9_refusalOfCells_X9_isLane : GoodIn wsX9_refusalOfCells wsX9_isLane := goodIn_r _ [12] (by decide +kernel) (by decide +kernel)
set_option maxRecDepth 20000 in
theorem gX9_refusalOfCells_X9_isLane : GoodIn wsX9_refusalOfCells (va_wsS RX9 154 yX9_isLane wsX9_isLane) := goodIn_app (goodIn_of _ (by decide +kernel)) ggX9_refusalOfCells_X9_isLane
set_option maxRecDepth 20000 in
theorem ggX9_refusalOfCells_X9_faultAs : GoodIn wsX9_refusalOfCells wsX9_faultAs := goodIn_r _ [16, 2, 17, 18, 19, 20, 21, 22, 23, 24, 25, 26, 27, 41, 42, 43, 44, 45, 46, 47, 48, 49, 50, 51] (by decide +kernel) (by decide +kernel)
set_option maxRecDepth 20000 in
theorem gX9_refusalOfCells_X9_faultAs : GoodIn wsX9_refusalOfCells (wsV RX9 177 RX9 yX9_faultAs wsX9_faultAs) := goodIn_app (goodIn_of _ (by decide +kernel)) ggX9_refusalOfCells_X9_faultAs
set_option maxRecDepth 20000 in
theorem ggX9_refusalOfCells_X9_faulted : GoodIn wsX9_refusalOfCells wsX9_faulted := goodIn_r _ [31, 1, 41, 42, 43, 44, 45, 46, 47, 48] (by decide +kernel) (by decide +kernel)
set_option maxRecDepth 20000 in
theorem gX9_refusalOfCells_X9_faulted : GoodIn wsX9_refusalOfCells (wsV RX9 157 RX9 yX9_faulted wsX9_faulted) := goodIn_app (goodIn_of _ (by decide +kernel)) ggX9_refusalOfCells_X9_faulted
set_option maxRecDepth 20000 in
theorem ggX9_refusalOfCells_X7_hasCells : GoodIn wsX9_refusalOfCells wsX7_hasCells := goodIn_r _ [35, 36, 37, 38, 20, 39, 40, 49, 50, 51] (by decide +kernel) (by decide +kernel)
set_option maxRecDepth 20000 in
theorem gX9_refusalOfCells_X7_hasCells : GoodIn wsX9_refusalOfCells (wsV RX9 186 RX7 yX7_hasCells wsX7_hasCells) := goodIn_app (goodIn_of _ (by decide +kernel)) ggX9_refusalOfCells_X7_hasCells
set_option maxRecDepth 20000 in
theorem ggX9_refusalOfRow_X9_refusalOfCells : GoodIn wsX9_refusalOfRow wsX9_refusalOfCells := goodIn_r _ [7, 8, 2, 9, 10, 6, 11, 12, 13, 14, 15, 16, 17, 18, 19, 20, 21, 22, 23, 24, 25, 26, 27, 28, 29, 30, 31, 32, 33, 34, 35, 36, 37, 38, 39, 40, 41, 42, 43, 44, 45, 62, 63, 64, 65, 66, 67, 68, 69, 70, 71, 72] (by decide +kernel) (by decide +kernel)
set_option maxRecDepth 20000 in
theorem gX9_refusalOfRow_X9_refusalOfCells : GoodIn wsX9_refusalOfRow (wsV RX9 60 RX9 yX9_refusalOfCells wsX9_refusalOfCells) := goodIn_app (goodIn_of _ (by decide +kernel)) ggX9_refusalOfRow_X9_refusalOfCells
set_option maxRecDepth 20000 in
theorem ggX9_refusalOfRow_X7_at : GoodIn wsX9_refusalOfRow wsX7_at := goodIn_r _ [49, 50, 51, 52, 53, 25, 54, 41, 42, 43, 44, 45, 70, 71, 72] (by decide +kernel) (by decide +kernel)
set_option maxRecDepth 20000 in
theorem gX9_refusalOfRow_X7_at : GoodIn wsX9_refusalOfRow (wsV RX9 180 RX7 yX7_at wsX7_at) := goodIn_app (goodIn_of _ (by decide +kernel)) ggX9_refusalOfRow_X7_at
set_option maxRecDepth 20000 in
theorem ggX9_refusalOfRow_X4_one : GoodIn wsX9_refusalOfRow wsX4_one := goodIn_r _ [59, 60, 61, 73, 74] (by decide +kernel) (by decide +kernel)
set_option maxRecDepth 20000 in
theorem gX9_refusalOfRow_X4_one : GoodIn wsX9_refusalOfRow (wsV RX9 79 RX4 yX4_one wsX4_one) := goodIn_app (goodIn_of _ (by decide +kernel)) ggX9_refusalOfRow_X4_one
set_option maxRecDepth 20000 in
theorem ggX9_areBargains_X7_at : GoodIn wsX9_areBargains wsX7_at := goodIn_r _ [6, 7, 8, 9, 10, 5, 11, 12, 13, 14, 15, 16, 29, 30, 31] (by decide +kernel) (by decide +kernel)
set_option maxRecDepth 20000 in
theorem gX9_areBargains_X7_at : GoodIn wsX9_areBargains (wsV RX9 180 RX7 yX7_at wsX7_at) := goodIn_app (goodIn_of _ (by decide +kernel)) ggX9_areBargains_X7_at
set_option maxRecDepth 20000 in
theorem ggX9_areBargains_X9_isQuantity : GoodIn wsX9_areBargains wsX9_isQuantity := goodIn_r _ [20] (by decide +kernel) (by decide +kernel)
set_option maxRecDepth 20000 in
theorem gX9_areBargains_X9_isQuantity : GoodIn wsX9_areBargains (va_wsS RX9 111 yX9_isQuantity wsX9_isQuantity) := goodIn_app (goodIn_of _ (by decide +kernel)) ggX9_areBargains_X9_isQuantity
set_option maxRecDepth 20000 in
theorem ggX9_meaning_X7_at : GoodIn wsX9_meaning wsX7_at := goodIn_r _ [7, 8, 9, 10, 11, 6, 12, 13, 14, 15, 16, 17, 78, 79, 80] (by decide +kernel) (by decide +kernel)
set_option maxRecDepth 20000 in
theorem gX9_meaning_X7_at : GoodIn wsX9_meaning (wsV RX9 180 RX7 yX7_at wsX7_at) := goodIn_app (goodIn_of _ (by decide +kernel)) ggX9_meaning_X7_at
set_option maxRecDepth 20000 in
theorem ggX9_meaning_X4_one : GoodIn wsX9_meaning wsX4_one := goodIn_r _ [22, 23, 24, 81, 82] (by decide +kernel) (by decide +kernel)
set_option maxRecDepth 20000 in
theorem gX9_meaning_X4_one : GoodIn wsX9_meaning (wsV RX9 79 RX4 yX4_one wsX4_one) := goodIn_app (goodIn_of _ (by decide +kernel)) ggX9_meaning_X4_one
set_option maxRecDepth 20000 in
theorem ggX9_meaning_X3_isHeard : GoodIn wsX9_meaning wsX3_isHeard := goodIn_r _ [30, 31, 32, 33, 34, 35, 36, 37, 38, 39, 40, 41, 42, 29, 43, 44, 45, 46, 47, 48, 49, 50, 51, 52, 53, 54, 55, 56, 57, 83, 84, 85, 86, 87, 88, 89, 90, 91, 92, 93, 94] (by decide +kernel) (by decide +kernel)
set_option maxRecDepth 20000 in
theorem gX9_meaning_X3_isHeard_u96X1 : GoodIn wsX9_meaning (va_wsU RX9 96 RX1 "LivingNumbers$Named" ⟨"LivingNumbers$Named", "isHeard", "(II)Z"⟩ yX3_isHeard wsX3_isHeard) := goodIn_app (goodIn_of _ (by decide +kernel)) ggX9_meaning_X3_isHeard
set_option maxRecDepth 20000 in
theorem gX9_meaning_X3_isHeard_u96X2 : GoodIn wsX9_meaning (va_wsU RX9 96 RX2 "LivingNumbers$Named" ⟨"LivingNumbers$Named", "isHeard", "(II)Z"⟩ yX3_isHeard wsX3_isHeard) := goodIn_app (goodIn_of _ (by decide +kernel)) ggX9_meaning_X3_isHeard
set_option maxRecDepth 20000 in
theorem gX9_meaning_X3_isHeard : GoodIn wsX9_meaning (wsV RX9 96 RX3 yX3_isHeard wsX3_isHeard) := goodIn_app (goodIn_of _ (by decide +kernel)) ggX9_meaning_X3_isHeard
set_option maxRecDepth 20000 in
theorem ggX9_meaning_X3_number : GoodIn wsX9_meaning wsX3_number := goodIn_r _ [65, 66, 83, 84, 85, 86, 87, 88, 89, 90, 91, 92, 93, 94] (by decide +kernel) (by decide +kernel)
set_option maxRecDepth 20000 in
theorem gX9_meaning_X3_number_u207X1 : GoodIn wsX9_meaning (va_wsU RX9 207 RX1 "LivingNumbers$Named" ⟨"LivingNumbers$Named", "number", "()I"⟩ yX3_number wsX3_number) := goodIn_app (goodIn_of _ (by decide +kernel)) ggX9_meaning_X3_number
set_option maxRecDepth 20000 in
theorem gX9_meaning_X3_number_u207X2 : GoodIn wsX9_meaning (va_wsU RX9 207 RX2 "LivingNumbers$Named" ⟨"LivingNumbers$Named", "number", "()I"⟩ yX3_number wsX3_number) := goodIn_app (goodIn_of _ (by decide +kernel)) ggX9_meaning_X3_number
set_option maxRecDepth 20000 in
theorem gX9_meaning_X3_number : GoodIn wsX9_meaning (wsV RX9 207 RX3 yX3_number wsX3_number) := goodIn_app (goodIn_of _ (by decide +kernel)) ggX9_meaning_X3_number
set_option maxRecDepth 20000 in
theorem ggX9_fewestWords_X4_teach : GoodIn wsX9_fewestWords wsX4_teach := goodIn_r _ [8, 9, 10, 11, 12, 13, 14, 15, 16, 17, 18, 19, 7, 20, 21, 22, 23, 24, 25, 26, 27, 28, 29, 30, 31, 32, 33, 34, 35, 36, 37, 38, 39, 40, 41, 42, 43, 44, 45, 46, 47, 48, 49, 50, 51, 52, 53, 54, 55, 56, 57, 58, 59, 60, 61, 62, 63, 64, 65, 66, 67, 68, 69, 70, 71, 72, 73, 74, 87, 88, 89, 90, 91, 92, 93, 94, 95, 96, 97, 98, 99, 100, 101] (by decide +kernel) (by decide +kernel)
set_option maxRecDepth 20000 in
theorem gX9_fewestWords_X4_teach : GoodIn wsX9_fewestWords (wsV RX9 128 RX4 yX4_teach wsX4_teach) := goodIn_app (goodIn_of _ (by decide +kernel)) ggX9_fewestWords_X4_teach
set_option maxRecDepth 20000 in
theorem ggX9_fewestWords_X0_of : GoodIn wsX9_fewestWords wsX0_of := goodIn_r _ [78, 15, 16, 89] (by decide +kernel) (by decide +kernel)
set_option maxRecDepth 20000 in
theorem gX9_fewestWords_X0_of : GoodIn wsX9_fewestWords (wsV RX9 210 RX0 yX0_of wsX0_of) := goodIn_app (goodIn_of _ (by decide +kernel)) ggX9_fewestWords_X0_of
set_option maxRecDepth 20000 in
theorem ggX9_numberAt_X4_greatestStep : GoodIn wsX9_numberAt wsX4_greatestStep := goodIn_r _ [7, 8, 9, 10, 11, 6, 12, 13, 14, 15, 16, 17, 18, 19, 20, 21, 22, 23, 24, 25, 26, 27, 28, 29, 30, 31, 32, 33, 34, 35, 36, 37, 38, 39, 40, 41, 42, 43, 44, 45, 46, 47, 48, 49, 50, 51, 52, 53, 54, 55, 56, 57, 58, 59, 60, 61, 62, 63, 64, 65, 74, 75, 76, 77, 78, 79, 80, 81, 82, 83, 84, 85, 86, 87, 88] (by decide +kernel) (by decide +kernel)
set_option maxRecDepth 20000 in
theorem gX9_numberAt_X4_greatestStep : GoodIn wsX9_numberAt (wsV RX9 214 RX4 yX4_greatestStep wsX4_greatestStep) := goodIn_app (goodIn_of _ (by decide +kernel)) ggX9_numberAt_X4_greatestStep
set_option maxRecDepth 20000 in
theorem ggX9_bargainsSaid_X7_at : GoodIn wsX9_bargainsSaid wsX7_at := goodIn_r _ [7, 8, 9, 10, 11, 6, 12, 13, 14, 15, 16, 17, 41, 42, 43] (by decide +kernel) (by decide +kernel)
set_option maxRecDepth 20000 in
theorem gX9_bargainsSaid_X7_at : GoodIn wsX9_bargainsSaid (wsV RX9 180 RX7 yX7_at wsX7_at) := goodIn_app (goodIn_of _ (by decide +kernel)) ggX9_bargainsSaid_X7_at
set_option maxRecDepth 20000 in
theorem ggX9_bargainsSaid_X0_withinByOne : GoodIn wsX9_bargainsSaid wsX0_withinByOne := goodIn_r _ [22, 23, 24, 25, 21, 26, 27, 28, 29, 30, 31, 32, 44] (by decide +kernel) (by decide +kernel)
set_option maxRecDepth 20000 in
theorem gX9_bargainsSaid_X0_withinByOne : GoodIn wsX9_bargainsSaid (wsV RX9 218 RX0 yX0_withinByOne wsX0_withinByOne) := goodIn_app (goodIn_of _ (by decide +kernel)) ggX9_bargainsSaid_X0_withinByOne
set_option maxRecDepth 20000 in
theorem ggX10_failedLong_X10_nothing : GoodIn wsX10_failedLong wsX10_nothing := goodIn_r _ [5, 6] (by decide +kernel) (by decide +kernel)
set_option maxRecDepth 20000 in
theorem gX10_failedLong_X10_nothing : GoodIn wsX10_failedLong (va_wsS RX10 68 yX10_nothing wsX10_nothing) := goodIn_app (goodIn_of _ (by decide +kernel)) ggX10_failedLong_X10_nothing
set_option maxRecDepth 20000 in
theorem ggX10_barred_X10_noSheet : GoodIn wsX10_barred wsX10_noSheet := goodIn_r _ [7, 8, 9, 10, 6, 11] (by decide +kernel) (by decide +kernel)
set_option maxRecDepth 20000 in
theorem gX10_barred_X10_noSheet : GoodIn wsX10_barred (va_wsS RX10 72 yX10_noSheet wsX10_noSheet) := goodIn_app (goodIn_of _ (by decide +kernel)) ggX10_barred_X10_noSheet
set_option maxRecDepth 20000 in
theorem ggX10_barred_X10_refused : GoodIn wsX10_barred wsX10_refused := goodIn_r _ [15, 16, 24, 25, 26, 27, 28, 29, 30, 31, 32, 33, 34, 35, 36, 37, 38, 39, 40, 41, 42, 43, 44, 45] (by decide +kernel) (by decide +kernel)
set_option maxRecDepth 20000 in
theorem gX10_barred_X10_refused : GoodIn wsX10_barred (wsV RX10 76 RX10 yX10_refused wsX10_refused) := goodIn_app (goodIn_of _ (by decide +kernel)) ggX10_barred_X10_refused
set_option maxRecDepth 20000 in
theorem ggX10_barred_X10_in : GoodIn wsX10_barred wsX10_in := goodIn_r _ [11] (by decide +kernel) (by decide +kernel)
set_option maxRecDepth 20000 in
theorem gX10_barred_X10_in : GoodIn wsX10_barred (va_wsS RX10 82 yX10_in wsX10_in) := goodIn_app (goodIn_of _ (by decide +kernel)) ggX10_barred_X10_in
set_option maxRecDepth 20000 in
theorem ggX10_barred_X10_failed : GoodIn wsX10_barred wsX10_failed := goodIn_r _ [20, 16, 24, 25, 26, 27, 28, 29, 30, 31, 32, 33, 34, 35, 36, 37, 38, 39, 40, 41, 42, 43, 44, 45] (by decide +kernel) (by decide +kernel)
set_option maxRecDepth 20000 in
theorem gX10_barred_X10_failed : GoodIn wsX10_barred (wsV RX10 86 RX10 yX10_failed wsX10_failed) := goodIn_app (goodIn_of _ (by decide +kernel)) ggX10_barred_X10_failed
set_option maxRecDepth 20000 in
theorem ggX10_barred_X10_isBeyond : GoodIn wsX10_barred wsX10_isBeyond := goodIn_r _ [23] (by decide +kernel) (by decide +kernel)
set_option maxRecDepth 20000 in
theorem gX10_barred_X10_isBeyond : GoodIn wsX10_barred (va_wsS RX10 89 yX10_isBeyond wsX10_isBeyond) := goodIn_app (goodIn_of _ (by decide +kernel)) ggX10_barred_X10_isBeyond
set_option maxRecDepth 20000 in
theorem ggX10_noOne_X10_in : GoodIn wsX10_noOne wsX10_in := goodIn_r _ [5] (by decide +kernel) (by decide +kernel)
set_option maxRecDepth 20000 in
theorem gX10_noOne_X10_in : GoodIn wsX10_noOne (va_wsS RX10 82 yX10_in wsX10_in) := goodIn_app (goodIn_of _ (by decide +kernel)) ggX10_noOne_X10_in
set_option maxRecDepth 20000 in
theorem ggX10_noVillage_X10_in : GoodIn wsX10_noVillage wsX10_in := goodIn_r _ [4] (by decide +kernel) (by decide +kernel)
set_option maxRecDepth 20000 in
theorem gX10_noVillage_X10_in : GoodIn wsX10_noVillage (va_wsS RX10 82 yX10_in wsX10_in) := goodIn_app (goodIn_of _ (by decide +kernel)) ggX10_noVillage_X10_in
set_option maxRecDepth 20000 in
theorem ggX10_isDay_X10_in : GoodIn wsX10_isDay wsX10_in := goodIn_r _ [5] (by decide +kernel) (by decide +kernel)
set_option maxRecDepth 20000 in
theorem gX10_isDay_X10_in : GoodIn wsX10_isDay (va_wsS RX10 82 yX10_in wsX10_in) := goodIn_app (goodIn_of _ (by decide +kernel)) ggX10_isDay_X10_in
set_option maxRecDepth 20000 in
theorem ggX10_isFew_X10_in : GoodIn wsX10_isFew wsX10_in := goodIn_r _ [5] (by decide +kernel) (by decide +kernel)
set_option maxRecDepth 20000 in
theorem gX10_isFew_X10_in : GoodIn wsX10_isFew (va_wsS RX10 82 yX10_in wsX10_in) := goodIn_app (goodIn_of _ (by decide +kernel)) ggX10_isFew_X10_in
set_option maxRecDepth 20000 in
theorem ggX10_figureAt_X10_in : GoodIn wsX10_figureAt wsX10_in := goodIn_r _ [6] (by decide +kernel) (by decide +kernel)
set_option maxRecDepth 20000 in
theorem gX10_figureAt_X10_in : GoodIn wsX10_figureAt (va_wsS RX10 82 yX10_in wsX10_in) := goodIn_app (goodIn_of _ (by decide +kernel)) ggX10_figureAt_X10_in
set_option maxRecDepth 20000 in
theorem ggX10_two_X10_figureAt : GoodIn wsX10_two wsX10_figureAt := goodIn_r _ [7, 8, 9, 10, 11, 6, 12, 13, 14, 15, 16, 17, 18, 19, 20, 21, 22, 23, 24, 25, 26, 27, 28, 29, 30, 31, 32, 33, 34] (by decide +kernel) (by decide +kernel)
set_option maxRecDepth 20000 in
theorem gX10_two_X10_figureAt : GoodIn wsX10_two (wsV RX10 103 RX10 yX10_figureAt wsX10_figureAt) := goodIn_app (goodIn_of _ (by decide +kernel)) ggX10_two_X10_figureAt
set_option maxRecDepth 20000 in
theorem ggX10_two_X10_in : GoodIn wsX10_two wsX10_in := goodIn_r _ [12] (by decide +kernel) (by decide +kernel)
set_option maxRecDepth 20000 in
theorem gX10_two_X10_in : GoodIn wsX10_two (va_wsS RX10 82 yX10_in wsX10_in) := goodIn_app (goodIn_of _ (by decide +kernel)) ggX10_two_X10_in
set_option maxRecDepth 20000 in
theorem ggX10_readsOne_X10_figureAt : GoodIn wsX10_readsOne wsX10_figureAt := goodIn_r _ [13, 3, 14, 15, 16, 12, 17, 23, 24, 25, 26, 27, 28, 29, 30, 31, 32, 33, 34, 35, 36, 37, 38, 39, 40, 41, 42, 43, 44] (by decide +kernel) (by decide +kernel)
set_option maxRecDepth 20000 in
theorem gX10_readsOne_X10_figureAt : GoodIn wsX10_readsOne (wsV RX10 103 RX10 yX10_figureAt wsX10_figureAt) := goodIn_app (goodIn_of _ (by decide +kernel)) ggX10_readsOne_X10_figureAt
