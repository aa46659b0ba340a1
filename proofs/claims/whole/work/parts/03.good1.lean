set_option maxRecDepth 20000 in
theorem ggX0_within_X0_of : GoodIn wsX0_within wsX0_of := goodIn_r _ [5, 6, 7, 8] (by decide +kernel) (by decide +kernel)
set_option maxRecDepth 20000 in
theorem gX0_within_X0_of : GoodIn wsX0_within (wsV RX0 22 RX0 yX0_of wsX0_of) := goodIn_app (goodIn_of _ (by decide +kernel)) ggX0_within_X0_of
set_option maxRecDepth 20000 in
theorem ggX0_withinByOne_X0_within : GoodIn wsX0_withinByOne wsX0_within := goodIn_r _ [5, 6, 7, 8, 4, 9, 10, 11, 12] (by decide +kernel) (by decide +kernel)
set_option maxRecDepth 20000 in
theorem gX0_withinByOne_X0_within : GoodIn wsX0_withinByOne (wsV RX0 26 RX0 yX0_within wsX0_within) := goodIn_app (goodIn_of _ (by decide +kernel)) ggX0_withinByOne_X0_within
set_option maxRecDepth 20000 in
theorem ggX0_withinBy_X0_isReached : GoodIn wsX0_withinBy wsX0_isReached := goodIn_r _ [8, 9, 10, 11, 7, 12, 13, 14, 15, 16, 17, 18, 5, 6, 19] (by decide +kernel) (by decide +kernel)
set_option maxRecDepth 20000 in
theorem gX0_withinBy_X0_isReached : GoodIn wsX0_withinBy (va_wsS RX0 30 yX0_isReached wsX0_isReached) := goodIn_app (goodIn_of _ (by decide +kernel)) ggX0_withinBy_X0_isReached
set_option maxRecDepth 20000 in
theorem ggX0_isReached_X0_within : GoodIn wsX0_isReached wsX0_within := goodIn_r _ [5, 6, 7, 8, 4, 9, 10, 11, 14] (by decide +kernel) (by decide +kernel)
set_option maxRecDepth 20000 in
theorem gX0_isReached_X0_within : GoodIn wsX0_isReached (wsV RX0 26 RX0 yX0_within wsX0_within) := goodIn_app (goodIn_of _ (by decide +kernel)) ggX0_isReached_X0_within
set_option maxRecDepth 20000 in
theorem ggX0_isReached_X0_isReached : GoodIn wsX0_isReached wsX0_isReached := goodIn_r _ [0, 1, 2, 3, 4, 5, 6, 7, 8, 9, 10, 11, 12, 13, 14] (by decide +kernel) (by decide +kernel)
set_option maxRecDepth 20000 in
theorem gX0_isReached_X0_isReached : GoodIn wsX0_isReached (va_wsS RX0 30 yX0_isReached wsX0_isReached) := goodIn_app (goodIn_of _ (by decide +kernel)) ggX0_isReached_X0_isReached
set_option maxRecDepth 20000 in
theorem ggX1_init_X2_init : GoodIn wsX1_init wsX2_init := goodIn_r _ [4, 5, 6, 7, 8, 9, 10, 11, 12, 13, 14, 15, 16, 17, 18, 19, 20, 21, 22, 23, 24, 25, 26, 27] (by decide +kernel) (by decide +kernel)
set_option maxRecDepth 20000 in
theorem gX1_init_X2_init : GoodIn wsX1_init (wsX2_init) := ggX1_init_X2_init
set_option maxRecDepth 20000 in
theorem ggX1_telling_X8_leave : GoodIn wsX1_telling wsX8_leave := goodIn_r _ [5, 6, 26] (by decide +kernel) (by decide +kernel)
set_option maxRecDepth 20000 in
theorem gX1_telling_X8_leave : GoodIn wsX1_telling (wsV RX1 7 RX8 yX8_leave wsX8_leave) := goodIn_app (goodIn_of _ (by decide +kernel)) ggX1_telling_X8_leave
set_option maxRecDepth 20000 in
theorem ggX1_telling_X2_telling : GoodIn wsX1_telling wsX2_telling := goodIn_r _ [12, 13, 2, 3, 4, 5, 6, 14, 15, 16, 17, 18, 19, 20, 21, 22, 26, 27, 28, 29, 30, 31, 32, 33, 34, 35, 36, 37, 38] (by decide +kernel) (by decide +kernel)
set_option maxRecDepth 20000 in
theorem gX1_telling_X2_telling_s13 : GoodIn wsX1_telling (va_wsSU RX1 13 yX2_telling wsX2_telling) := goodIn_app (goodIn_of _ (by decide +kernel)) ggX1_telling_X2_telling
set_option maxRecDepth 20000 in
theorem ggX1_telling_X3_namedTelling : GoodIn wsX1_telling wsX3_namedTelling := goodIn_r _ [19, 20, 21, 2, 3, 4, 5, 6, 27, 28, 29, 30, 31, 32, 33, 34, 35, 36, 37, 38, 26] (by decide +kernel) (by decide +kernel)
set_option maxRecDepth 20000 in
theorem gX1_telling_X3_namedTelling_u17X1 : GoodIn wsX1_telling (va_wsU RX1 17 RX1 "LivingNumbers$Named" ⟨"LivingNumbers$Foreign", "namedTelling", "(LLivingNumbers$Trace;)I"⟩ yX3_namedTelling wsX3_namedTelling) := goodIn_app (goodIn_of _ (by decide +kernel)) ggX1_telling_X3_namedTelling
set_option maxRecDepth 20000 in
theorem ggX1_mourning_X8_leave : GoodIn wsX1_mourning wsX8_leave := goodIn_r _ [5, 6, 7] (by decide +kernel) (by decide +kernel)
set_option maxRecDepth 20000 in
theorem gX1_mourning_X8_leave : GoodIn wsX1_mourning (wsV RX1 7 RX8 yX8_leave wsX8_leave) := goodIn_app (goodIn_of _ (by decide +kernel)) ggX1_mourning_X8_leave
set_option maxRecDepth 20000 in
theorem ggX2_init_X3_init : GoodIn wsX2_init wsX3_init := goodIn_r _ [4, 5, 6, 7, 8, 9, 10, 11, 12, 13, 14, 15, 16, 17, 18, 19, 20, 21, 22, 23] (by decide +kernel) (by decide +kernel)
set_option maxRecDepth 20000 in
theorem gX2_init_X3_init : GoodIn wsX2_init (wsX3_init) := ggX2_init_X3_init
set_option maxRecDepth 20000 in
theorem ggX2_telling_X8_leave : GoodIn wsX2_telling wsX8_leave := goodIn_r _ [5, 6, 16] (by decide +kernel) (by decide +kernel)
set_option maxRecDepth 20000 in
theorem gX2_telling_X8_leave : GoodIn wsX2_telling (wsV RX2 7 RX8 yX8_leave wsX8_leave) := goodIn_app (goodIn_of _ (by decide +kernel)) ggX2_telling_X8_leave
set_option maxRecDepth 20000 in
theorem ggX2_telling_X3_namedTelling : GoodIn wsX2_telling wsX3_namedTelling := goodIn_r _ [12, 13, 14, 2, 3, 4, 5, 6, 17, 18, 19, 20, 21, 22, 23, 24, 25, 26, 27, 28, 16] (by decide +kernel) (by decide +kernel)
set_option maxRecDepth 20000 in
theorem gX2_telling_X3_namedTelling_u13X1 : GoodIn wsX2_telling (va_wsU RX2 13 RX1 "LivingNumbers$Named" ⟨"LivingNumbers$Lent", "namedTelling", "(LLivingNumbers$Trace;)I"⟩ yX3_namedTelling wsX3_namedTelling) := goodIn_app (goodIn_of _ (by decide +kernel)) ggX2_telling_X3_namedTelling
set_option maxRecDepth 20000 in
theorem gX2_telling_X3_namedTelling_u13X2 : GoodIn wsX2_telling (va_wsU RX2 13 RX2 "LivingNumbers$Named" ⟨"LivingNumbers$Lent", "namedTelling", "(LLivingNumbers$Trace;)I"⟩ yX3_namedTelling wsX3_namedTelling) := goodIn_app (goodIn_of _ (by decide +kernel)) ggX2_telling_X3_namedTelling
set_option maxRecDepth 20000 in
theorem ggX3_part_X1_kind : GoodIn wsX3_part wsX1_kind := goodIn_r _ [11] (by decide +kernel) (by decide +kernel)
set_option maxRecDepth 20000 in
theorem gX3_part_X1_kind_u22X1 : GoodIn wsX3_part (va_wsO RX3 22 RX1 "LivingNumbers$Named" ⟨"LivingNumbers$Named", "kind", "()I"⟩ yX1_kind wsX1_kind) := goodIn_app (goodIn_of _ (by decide +kernel)) ggX3_part_X1_kind
set_option maxRecDepth 20000 in
theorem ggX3_part_X2_kind : GoodIn wsX3_part wsX2_kind := goodIn_r _ [16] (by decide +kernel) (by decide +kernel)
set_option maxRecDepth 20000 in
theorem gX3_part_X2_kind_u22X2 : GoodIn wsX3_part (va_wsO RX3 22 RX2 "LivingNumbers$Named" ⟨"LivingNumbers$Named", "kind", "()I"⟩ yX2_kind wsX2_kind) := goodIn_app (goodIn_of _ (by decide +kernel)) ggX3_part_X2_kind
set_option maxRecDepth 20000 in
theorem ggX3_part_X3_kind : GoodIn wsX3_part wsX3_kind := goodIn_r _ [12] (by decide +kernel) (by decide +kernel)
set_option maxRecDepth 20000 in
theorem gX3_part_X3_kind : GoodIn wsX3_part (wsV RX3 22 RX3 yX3_kind wsX3_kind) := goodIn_app (goodIn_of _ (by decide +kernel)) ggX3_part_X3_kind
set_option maxRecDepth 20000 in
theorem ggX3_isHeard_X1_isKnown : GoodIn wsX3_isHeard wsX1_isKnown := goodIn_r _ [9] (by decide +kernel) (by decide +kernel)
set_option maxRecDepth 20000 in
theorem gX3_isHeard_X1_isKnown_u26X1 : GoodIn wsX3_isHeard (va_wsO RX3 26 RX1 "LivingNumbers$Named" ⟨"LivingNumbers$Named", "isKnown", "(I)Z"⟩ yX1_isKnown wsX1_isKnown) := goodIn_app (goodIn_of _ (by decide +kernel)) ggX3_isHeard_X1_isKnown
set_option maxRecDepth 20000 in
theorem ggX3_isHeard_X3_isKnown : GoodIn wsX3_isHeard wsX3_isKnown := goodIn_r _ [10, 14, 29, 30, 31, 32, 33, 34, 35, 36, 37, 38, 39, 40] (by decide +kernel) (by decide +kernel)
set_option maxRecDepth 20000 in
theorem gX3_isHeard_X3_isKnown_u26X2 : GoodIn wsX3_isHeard (va_wsU RX3 26 RX2 "LivingNumbers$Named" ⟨"LivingNumbers$Named", "isKnown", "(I)Z"⟩ yX3_isKnown wsX3_isKnown) := goodIn_app (goodIn_of _ (by decide +kernel)) ggX3_isHeard_X3_isKnown
set_option maxRecDepth 20000 in
theorem gX3_isHeard_X3_isKnown : GoodIn wsX3_isHeard (wsV RX3 26 RX3 yX3_isKnown wsX3_isKnown) := goodIn_app (goodIn_of _ (by decide +kernel)) ggX3_isHeard_X3_isKnown
set_option maxRecDepth 20000 in
theorem ggX3_isHeard_X2_longer : GoodIn wsX3_isHeard wsX2_longer := goodIn_r _ [23] (by decide +kernel) (by decide +kernel)
set_option maxRecDepth 20000 in
theorem gX3_isHeard_X2_longer_u30X1 : GoodIn wsX3_isHeard (va_wsO RX3 30 RX1 "LivingNumbers$Named" ⟨"LivingNumbers$Named", "longer", "()I"⟩ yX2_longer wsX2_longer) := goodIn_app (goodIn_of _ (by decide +kernel)) ggX3_isHeard_X2_longer
set_option maxRecDepth 20000 in
theorem gX3_isHeard_X2_longer_u30X2 : GoodIn wsX3_isHeard (va_wsO RX3 30 RX2 "LivingNumbers$Named" ⟨"LivingNumbers$Named", "longer", "()I"⟩ yX2_longer wsX2_longer) := goodIn_app (goodIn_of _ (by decide +kernel)) ggX3_isHeard_X2_longer
set_option maxRecDepth 20000 in
theorem ggX3_isHeard_X3_longer : GoodIn wsX3_isHeard wsX3_longer := goodIn_r _ [24] (by decide +kernel) (by decide +kernel)
set_option maxRecDepth 20000 in
theorem gX3_isHeard_X3_longer : GoodIn wsX3_isHeard (wsV RX3 30 RX3 yX3_longer wsX3_longer) := goodIn_app (goodIn_of _ (by decide +kernel)) ggX3_isHeard_X3_longer
set_option maxRecDepth 20000 in
theorem ggX3_telling_X3_namedTelling : GoodIn wsX3_telling wsX3_namedTelling := goodIn_r _ [6, 7, 8, 9, 10, 11, 12, 13, 17, 18, 19, 20, 21, 22, 23, 24, 25, 26, 27, 28, 29] (by decide +kernel) (by decide +kernel)
set_option maxRecDepth 20000 in
theorem gX3_telling_X3_namedTelling_u33X1 : GoodIn wsX3_telling (va_wsU RX3 33 RX1 "LivingNumbers$Named" ⟨"LivingNumbers$Named", "namedTelling", "(LLivingNumbers$Trace;)I"⟩ yX3_namedTelling wsX3_namedTelling) := goodIn_app (goodIn_of _ (by decide +kernel)) ggX3_telling_X3_namedTelling
set_option maxRecDepth 20000 in
theorem gX3_telling_X3_namedTelling_u33X2 : GoodIn wsX3_telling (va_wsU RX3 33 RX2 "LivingNumbers$Named" ⟨"LivingNumbers$Named", "namedTelling", "(LLivingNumbers$Trace;)I"⟩ yX3_namedTelling wsX3_namedTelling) := goodIn_app (goodIn_of _ (by decide +kernel)) ggX3_telling_X3_namedTelling
set_option maxRecDepth 20000 in
theorem gX3_telling_X3_namedTelling : GoodIn wsX3_telling (wsV RX3 33 RX3 yX3_namedTelling wsX3_namedTelling) := goodIn_app (goodIn_of _ (by decide +kernel)) ggX3_telling_X3_namedTelling
set_option maxRecDepth 20000 in
theorem ggX3_namedTelling_X8_leave : GoodIn wsX3_namedTelling wsX8_leave := goodIn_r _ [6, 7, 20] (by decide +kernel) (by decide +kernel)
set_option maxRecDepth 20000 in
theorem gX3_namedTelling_X8_leave : GoodIn wsX3_namedTelling (wsV RX3 37 RX8 yX8_leave wsX8_leave) := goodIn_app (goodIn_of _ (by decide +kernel)) ggX3_namedTelling_X8_leave
set_option maxRecDepth 20000 in
theorem ggX3_mourning_X8_leave : GoodIn wsX3_mourning wsX8_leave := goodIn_r _ [5, 6, 7] (by decide +kernel) (by decide +kernel)
set_option maxRecDepth 20000 in
theorem gX3_mourning_X8_leave : GoodIn wsX3_mourning (wsV RX3 37 RX8 yX8_leave wsX8_leave) := goodIn_app (goodIn_of _ (by decide +kernel)) ggX3_mourning_X8_leave
set_option maxRecDepth 20000 in
theorem ggX4_takeFrom_X6_people : GoodIn wsX4_takeFrom wsX6_people := goodIn_r _ [11, 12, 59, 60] (by decide +kernel) (by decide +kernel)
set_option maxRecDepth 20000 in
theorem gX4_takeFrom_X6_people : GoodIn wsX4_takeFrom (wsV RX4 21 RX6 yX6_people wsX6_people) := goodIn_app (goodIn_of _ (by decide +kernel)) ggX4_takeFrom_X6_people
set_option maxRecDepth 20000 in
theorem ggX4_takeFrom_X6_one : GoodIn wsX4_takeFrom wsX6_one := goodIn_r _ [16, 17, 18, 19, 20, 21, 22, 23, 24, 25, 26, 27, 28, 10, 29, 30, 31, 32, 33, 12, 34, 35, 36, 37, 38, 39, 40, 41, 42, 43, 44, 45, 46, 47, 48, 49, 50, 51, 52, 53, 54, 55, 56, 61, 62, 63, 64, 65, 66, 67, 68, 69, 70, 71, 72, 59, 60] (by decide +kernel) (by decide +kernel)
set_option maxRecDepth 20000 in
theorem gX4_takeFrom_X6_one : GoodIn wsX4_takeFrom (wsV RX4 33 RX6 yX6_one wsX6_one) := goodIn_app (goodIn_of _ (by decide +kernel)) ggX4_takeFrom_X6_one
set_option maxRecDepth 20000 in
theorem ggX4_bearer_X4_one : GoodIn wsX4_bearer wsX4_one := goodIn_r _ [6, 1, 7, 53, 54] (by decide +kernel) (by decide +kernel)
set_option maxRecDepth 20000 in
theorem gX4_bearer_X4_one : GoodIn wsX4_bearer (wsV RX4 37 RX4 yX4_one wsX4_one) := goodIn_app (goodIn_of _ (by decide +kernel)) ggX4_bearer_X4_one
set_option maxRecDepth 20000 in
theorem ggX4_bearer_X3_number : GoodIn wsX4_bearer wsX3_number := goodIn_r _ [13, 14, 55, 56, 57, 58, 59, 60, 61, 62, 63, 64, 65, 66] (by decide +kernel) (by decide +kernel)
set_option maxRecDepth 20000 in
theorem gX4_bearer_X3_number_u38X1 : GoodIn wsX4_bearer (va_wsU RX4 38 RX1 "LivingNumbers$Named" ⟨"LivingNumbers$Named", "number", "()I"⟩ yX3_number wsX3_number) := goodIn_app (goodIn_of _ (by decide +kernel)) ggX4_bearer_X3_number
set_option maxRecDepth 20000 in
theorem gX4_bearer_X3_number_u38X2 : GoodIn wsX4_bearer (va_wsU RX4 38 RX2 "LivingNumbers$Named" ⟨"LivingNumbers$Named", "number", "()I"⟩ yX3_number wsX3_number) := goodIn_app (goodIn_of _ (by decide +kernel)) ggX4_bearer_X3_number
set_option maxRecDepth 20000 in
theorem gX4_bearer_X3_number : GoodIn wsX4_bearer (wsV RX4 38 RX3 yX3_number wsX3_number) := goodIn_app (goodIn_of _ (by decide +kernel)) ggX4_bearer_X3_number
set_option maxRecDepth 20000 in
theorem ggX4_bearer_X3_isHeard : GoodIn wsX4_bearer wsX3_isHeard := goodIn_r _ [22, 23, 24, 25, 26, 27, 28, 29, 30, 31, 32, 33, 34, 12, 35, 36, 37, 38, 39, 40, 41, 42, 43, 44, 45, 46, 47, 48, 49, 55, 56, 57, 58, 59, 60, 61, 62, 63, 64, 65, 66] (by decide +kernel) (by decide +kernel)
set_option maxRecDepth 20000 in
theorem gX4_bearer_X3_isHeard_u41X1 : GoodIn wsX4_bearer (va_wsU RX4 41 RX1 "LivingNumbers$Named" ⟨"LivingNumbers$Named", "isHeard", "(II)Z"⟩ yX3_isHeard wsX3_isHeard) := goodIn_app (goodIn_of _ (by decide +kernel)) ggX4_bearer_X3_isHeard
set_option maxRecDepth 20000 in
theorem gX4_bearer_X3_isHeard_u41X2 : GoodIn wsX4_bearer (va_wsU RX4 41 RX2 "LivingNumbers$Named" ⟨"LivingNumbers$Named", "isHeard", "(II)Z"⟩ yX3_isHeard wsX3_isHeard) := goodIn_app (goodIn_of _ (by decide +kernel)) ggX4_bearer_X3_isHeard
set_option maxRecDepth 20000 in
theorem gX4_bearer_X3_isHeard : GoodIn wsX4_bearer (wsV RX4 41 RX3 yX3_isHeard wsX3_isHeard) := goodIn_app (goodIn_of _ (by decide +kernel)) ggX4_bearer_X3_isHeard
set_option maxRecDepth 20000 in
theorem ggX4_teach_X0_clear : GoodIn wsX4_teach wsX0_clear := goodIn_r _ [6, 7, 8, 70] (by decide +kernel) (by decide +kernel)
set_option maxRecDepth 20000 in
theorem gX4_teach_X0_clear : GoodIn wsX4_teach (wsV RX4 45 RX0 yX0_clear wsX0_clear) := goodIn_app (goodIn_of _ (by decide +kernel)) ggX4_teach_X0_clear
set_option maxRecDepth 20000 in
theorem ggX4_teach_X4_one : GoodIn wsX4_teach wsX4_one := goodIn_r _ [13, 1, 14, 68, 69] (by decide +kernel) (by decide +kernel)
set_option maxRecDepth 20000 in
theorem gX4_teach_X4_one : GoodIn wsX4_teach (wsV RX4 37 RX4 yX4_one wsX4_one) := goodIn_app (goodIn_of _ (by decide +kernel)) ggX4_teach_X4_one
set_option maxRecDepth 20000 in
theorem ggX4_teach_X3_isHeard : GoodIn wsX4_teach wsX3_isHeard := goodIn_r _ [20, 21, 22, 23, 24, 25, 26, 27, 28, 29, 30, 31, 32, 19, 33, 34, 35, 36, 37, 38, 39, 40, 41, 42, 43, 44, 45, 46, 47, 71, 72, 73, 74, 75, 76, 77, 78, 79, 80, 81, 82] (by decide +kernel) (by decide +kernel)
set_option maxRecDepth 20000 in
theorem gX4_teach_X3_isHeard_u41X1 : GoodIn wsX4_teach (va_wsU RX4 41 RX1 "LivingNumbers$Named" ⟨"LivingNumbers$Named", "isHeard", "(II)Z"⟩ yX3_isHeard wsX3_isHeard) := goodIn_app (goodIn_of _ (by decide +kernel)) ggX4_teach_X3_isHeard
set_option maxRecDepth 20000 in
theorem gX4_teach_X3_isHeard_u41X2 : GoodIn wsX4_teach (va_wsU RX4 41 RX2 "LivingNumbers$Named" ⟨"LivingNumbers$Named", "isHeard", "(II)Z"⟩ yX3_isHeard wsX3_isHeard) := goodIn_app (goodIn_of _ (by decide +kernel)) ggX4_teach_X3_isHeard
set_option maxRecDepth 20000 in
theorem gX4_teach_X3_isHeard : GoodIn wsX4_teach (wsV RX4 41 RX3 yX3_isHeard wsX3_isHeard) := goodIn_app (goodIn_of _ (by decide +kernel)) ggX4_teach_X3_isHeard
set_option maxRecDepth 20000 in
theorem ggX4_teach_X3_number : GoodIn wsX4_teach wsX3_number := goodIn_r _ [55, 56, 71, 72, 73, 74, 75, 76, 77, 78, 79, 80, 81, 82] (by decide +kernel) (by decide +kernel)
set_option maxRecDepth 20000 in
theorem gX4_teach_X3_number_u38X1 : GoodIn wsX4_teach (va_wsU RX4 38 RX1 "LivingNumbers$Named" ⟨"LivingNumbers$Named", "number", "()I"⟩ yX3_number wsX3_number) := goodIn_app (goodIn_of _ (by decide +kernel)) ggX4_teach_X3_number
set_option maxRecDepth 20000 in
theorem gX4_teach_X3_number_u38X2 : GoodIn wsX4_teach (va_wsU RX4 38 RX2 "LivingNumbers$Named" ⟨"LivingNumbers$Named", "number", "()I"⟩ yX3_number wsX3_number) := goodIn_app (goodIn_of _ (by decide +kernel)) ggX4_teach_X3_number
set_option maxRecDepth 20000 in
theorem gX4_teach_X3_number : GoodIn wsX4_teach (wsV RX4 38 RX3 yX3_number wsX3_number) := goodIn_app (goodIn_of _ (by decide +kernel)) ggX4_teach_X3_number
set_option maxRecDepth 20000 in
theorem ggX4_teach_X0_add : GoodIn wsX4_teach wsX0_add := goodIn_r _ [63, 7, 64, 65, 66, 67, 70] (by decide +kernel) (by decide +kernel)
set_option maxRecDepth 20000 in
theorem gX4_teach_X0_add : GoodIn wsX4_teach (wsV RX4 50 RX0 yX0_add wsX0_add) := goodIn_app (goodIn_of _ (by decide +kernel)) ggX4_teach_X0_add
set_option maxRecDepth 20000 in
theorem ggX4_greatestStep_X4_one : GoodIn wsX4_greatestStep wsX4_one := goodIn_r _ [6, 1, 7, 60, 61] (by decide +kernel) (by decide +kernel)
set_option maxRecDepth 20000 in
theorem gX4_greatestStep_X4_one : GoodIn wsX4_greatestStep (wsV RX4 37 RX4 yX4_one wsX4_one) := goodIn_app (goodIn_of _ (by decide +kernel)) ggX4_greatestStep_X4_one
set_option maxRecDepth 20000 in
theorem ggX4_greatestStep_X3_number : GoodIn wsX4_greatestStep wsX3_number := goodIn_r _ [13, 14, 62, 63, 64, 65, 66, 67, 68, 69, 70, 71, 72, 73] (by decide +kernel) (by decide +kernel)
set_option maxRecDepth 20000 in
theorem gX4_greatestStep_X3_number_u38X1 : GoodIn wsX4_greatestStep (va_wsU RX4 38 RX1 "LivingNumbers$Named" ⟨"LivingNumbers$Named", "number", "()I"⟩ yX3_number wsX3_number) := goodIn_app (goodIn_of _ (by decide +kernel)) ggX4_greatestStep_X3_number
set_option maxRecDepth 20000 in
theorem gX4_greatestStep_X3_number_u38X2 : GoodIn wsX4_greatestStep (va_wsU RX4 38 RX2 "LivingNumbers$Named" ⟨"LivingNumbers$Named", "number", "()I"⟩ yX3_number wsX3_number) := goodIn_app (goodIn_of _ (by decide +kernel)) ggX4_greatestStep_X3_number
set_option maxRecDepth 20000 in
theorem gX4_greatestStep_X3_number : GoodIn wsX4_greatestStep (wsV RX4 38 RX3 yX3_number wsX3_number) := goodIn_app (goodIn_of _ (by decide +kernel)) ggX4_greatestStep_X3_number
set_option maxRecDepth 20000 in
theorem ggX4_greatestStep_X3_isHeard : GoodIn wsX4_greatestStep wsX3_isHeard := goodIn_r _ [22, 23, 24, 25, 26, 27, 28, 29, 30, 31, 32, 33, 34, 12, 35, 36, 37, 38, 39, 40, 41, 42, 43, 44, 45, 46, 47, 48, 49, 62, 63, 64, 65, 66, 67, 68, 69, 70, 71, 72, 73] (by decide +kernel) (by decide +kernel)
set_option maxRecDepth 20000 in
theorem gX4_greatestStep_X3_isHeard_u41X1 : GoodIn wsX4_greatestStep (va_wsU RX4 41 RX1 "LivingNumbers$Named" ⟨"LivingNumbers$Named", "isHeard", "(II)Z"⟩ yX3_isHeard wsX3_isHeard) := goodIn_app (goodIn_of _ (by decide +kernel)) ggX4_greatestStep_X3_isHeard
set_option maxRecDepth 20000 in
theorem gX4_greatestStep_X3_isHeard_u41X2 : GoodIn wsX4_greatestStep (va_wsU RX4 41 RX2 "LivingNumbers$Named" ⟨"LivingNumbers$Named", "isHeard", "(II)Z"⟩ yX3_isHeard wsX3_isHeard) := goodIn_app (goodIn_of _ (by decide +kernel)) ggX4_greatestStep_X3_isHeard
set_option maxRecDepth 20000 in
theorem gX4_greatestStep_X3_isHeard : GoodIn wsX4_greatestStep (wsV RX4 41 RX3 yX3_isHeard wsX3_isHeard) := goodIn_app (goodIn_of _ (by decide +kernel)) ggX4_greatestStep_X3_isHeard
set_option maxRecDepth 20000 in
theorem ggX4_greatestStep_X0_of : GoodIn wsX4_greatestStep wsX0_of := goodIn_r _ [57, 58, 59, 74] (by decide +kernel) (by decide +kernel)
set_option maxRecDepth 20000 in
theorem gX4_greatestStep_X0_of : GoodIn wsX4_greatestStep (wsV RX4 54 RX0 yX0_of wsX0_of) := goodIn_app (goodIn_of _ (by decide +kernel)) ggX4_greatestStep_X0_of
set_option maxRecDepth 20000 in
theorem ggX5_search_X4_size : GoodIn wsX5_search wsX4_size := goodIn_r _ [6, 7, 62, 63] (by decide +kernel) (by decide +kernel)
set_option maxRecDepth 20000 in
theorem gX5_search_X4_size : GoodIn wsX5_search (wsV RX5 18 RX4 yX4_size wsX4_size) := goodIn_app (goodIn_of _ (by decide +kernel)) ggX5_search_X4_size
set_option maxRecDepth 20000 in
theorem ggX5_search_X5_chooseFrom : GoodIn wsX5_search wsX5_chooseFrom := goodIn_r _ [12, 13, 60, 61] (by decide +kernel) (by decide +kernel)
set_option maxRecDepth 20000 in
theorem gX5_search_X5_chooseFrom : GoodIn wsX5_search (wsV RX5 24 RX5 yX5_chooseFrom wsX5_chooseFrom) := goodIn_app (goodIn_of _ (by decide +kernel)) ggX5_search_X5_chooseFrom
set_option maxRecDepth 20000 in
theorem ggX5_search_X5_readNumbers : GoodIn wsX5_search wsX5_readNumbers := goodIn_r _ [17, 13, 1, 18, 19, 20, 5, 21, 7, 22, 23, 24, 25, 26, 27, 28, 29, 30, 31, 32, 60, 61, 62, 63, 64, 65, 66, 67, 68, 69, 70, 71, 72, 73, 74, 75] (by decide +kernel) (by decide +kernel)
set_option maxRecDepth 20000 in
theorem gX5_search_X5_readNumbers : GoodIn wsX5_search (wsV RX5 28 RX5 yX5_readNumbers wsX5_readNumbers) := goodIn_app (goodIn_of _ (by decide +kernel)) ggX5_search_X5_readNumbers
set_option maxRecDepth 20000 in
theorem ggX5_search_X0_withinBy : GoodIn wsX5_search wsX0_withinBy := goodIn_r _ [37, 38, 39, 40, 41, 42, 43, 36, 44, 45, 46, 47, 48, 49, 50, 51, 52, 53, 54, 76] (by decide +kernel) (by decide +kernel)
set_option maxRecDepth 20000 in
theorem gX5_search_X0_withinBy : GoodIn wsX5_search (wsV RX5 32 RX0 yX0_withinBy wsX0_withinBy) := goodIn_app (goodIn_of _ (by decide +kernel)) ggX5_search_X0_withinBy
set_option maxRecDepth 20000 in
theorem ggX5_search_X5_chooseNext : GoodIn wsX5_search wsX5_chooseNext := goodIn_r _ [58, 13, 59, 39, 40, 41, 8, 9, 10, 11, 12, 60, 61] (by decide +kernel) (by decide +kernel)
set_option maxRecDepth 20000 in
theorem gX5_search_X5_chooseNext : GoodIn wsX5_search (wsV RX5 38 RX5 yX5_chooseNext wsX5_chooseNext) := goodIn_app (goodIn_of _ (by decide +kernel)) ggX5_search_X5_chooseNext
set_option maxRecDepth 20000 in
theorem ggX5_chooseNext_X5_chooseFrom : GoodIn wsX5_chooseNext wsX5_chooseFrom := goodIn_r _ [10, 1, 11, 12] (by decide +kernel) (by decide +kernel)
set_option maxRecDepth 20000 in
theorem gX5_chooseNext_X5_chooseFrom : GoodIn wsX5_chooseNext (wsV RX5 24 RX5 yX5_chooseFrom wsX5_chooseFrom) := goodIn_app (goodIn_of _ (by decide +kernel)) ggX5_chooseNext_X5_chooseFrom
set_option maxRecDepth 20000 in
theorem ggX5_readNumbers_X4_one : GoodIn wsX5_readNumbers wsX4_one := goodIn_r _ [7, 8, 9, 22, 23] (by decide +kernel) (by decide +kernel)
set_option maxRecDepth 20000 in
theorem gX5_readNumbers_X4_one : GoodIn wsX5_readNumbers (wsV RX5 48 RX4 yX4_one wsX4_one) := goodIn_app (goodIn_of _ (by decide +kernel)) ggX5_readNumbers_X4_one
set_option maxRecDepth 20000 in
theorem ggX5_readNumbers_X3_number : GoodIn wsX5_readNumbers wsX3_number := goodIn_r _ [15, 16, 24, 25, 26, 27, 28, 29, 30, 31, 32, 33, 34, 35] (by decide +kernel) (by decide +kernel)
set_option maxRecDepth 20000 in
theorem gX5_readNumbers_X3_number_u52X1 : GoodIn wsX5_readNumbers (va_wsU RX5 52 RX1 "LivingNumbers$Named" ⟨"LivingNumbers$Named", "number", "()I"⟩ yX3_number wsX3_number) := goodIn_app (goodIn_of _ (by decide +kernel)) ggX5_readNumbers_X3_number
set_option maxRecDepth 20000 in
theorem gX5_readNumbers_X3_number_u52X2 : GoodIn wsX5_readNumbers (va_wsU RX5 52 RX2 "LivingNumbers$Named" ⟨"LivingNumbers$Named", "number", "()I"⟩ yX3_number wsX3_number) := goodIn_app (goodIn_of _ (by decide +kernel)) ggX5_readNumbers_X3_number
set_option maxRecDepth 20000 in
theorem gX5_readNumbers_X3_number : GoodIn wsX5_readNumbers (wsV RX5 52 RX3 yX3_number wsX3_number) := goodIn_app (goodIn_of _ (by decide +kernel)) ggX5_readNumbers_X3_number
set_option maxRecDepth 20000 in
theorem ggX6_read_X7_at : GoodIn wsX6_read wsX7_at := goodIn_r _ [11, 12, 13, 14, 15, 10, 16, 17, 18, 19, 20, 21, 24, 25, 26] (by decide +kernel) (by decide +kernel)
set_option maxRecDepth 20000 in
theorem gX6_read_X7_at : GoodIn wsX6_read (wsV RX6 25 RX7 yX7_at wsX7_at) := goodIn_app (goodIn_of _ (by decide +kernel)) ggX6_read_X7_at
set_option maxRecDepth 20000 in
theorem ggX6_firstFault_X6_goesOn : GoodIn wsX6_firstFault wsX6_goesOn := goodIn_r _ [6, 7, 8, 9, 5, 10, 1, 11, 12, 13, 14, 15, 16, 17, 18, 19, 20, 21, 22, 23, 28, 29] (by decide +kernel) (by decide +kernel)
set_option maxRecDepth 20000 in
theorem gX6_firstFault_X6_goesOn : GoodIn wsX6_firstFault (wsV RX6 30 RX6 yX6_goesOn wsX6_goesOn) := goodIn_app (goodIn_of _ (by decide +kernel)) ggX6_firstFault_X6_goesOn
set_option maxRecDepth 20000 in
theorem ggX6_firstFault_X6_isSecondDigit : GoodIn wsX6_firstFault wsX6_isSecondDigit := goodIn_r _ [27, 12, 13, 14, 5, 15, 7, 8, 9, 10, 1, 11, 28, 29] (by decide +kernel) (by decide +kernel)
set_option maxRecDepth 20000 in
theorem gX6_firstFault_X6_isSecondDigit : GoodIn wsX6_firstFault (wsV RX6 34 RX6 yX6_isSecondDigit wsX6_isSecondDigit) := goodIn_app (goodIn_of _ (by decide +kernel)) ggX6_firstFault_X6_isSecondDigit
set_option maxRecDepth 20000 in
theorem ggX6_one_X6_digit : GoodIn wsX6_one wsX6_digit := goodIn_r _ [14, 15, 16, 17, 13, 18, 19, 20, 55, 56] (by decide +kernel) (by decide +kernel)
set_option maxRecDepth 20000 in
theorem gX6_one_X6_digit : GoodIn wsX6_one (wsV RX6 37 RX6 yX6_digit wsX6_digit) := goodIn_app (goodIn_of _ (by decide +kernel)) ggX6_one_X6_digit
set_option maxRecDepth 20000 in
theorem ggX6_one_X6_pair : GoodIn wsX6_one wsX6_pair := goodIn_r _ [24, 10, 11, 12, 13, 14, 15, 16, 17, 18, 19, 20, 55, 56] (by decide +kernel) (by decide +kernel)
set_option maxRecDepth 20000 in
theorem gX6_one_X6_pair : GoodIn wsX6_one (wsV RX6 41 RX6 yX6_pair wsX6_pair) := goodIn_app (goodIn_of _ (by decide +kernel)) ggX6_one_X6_pair
set_option maxRecDepth 20000 in
theorem ggX6_one_X6_code : GoodIn wsX6_one wsX6_code := goodIn_r _ [18, 19, 20, 55, 56] (by decide +kernel) (by decide +kernel)
set_option maxRecDepth 20000 in
theorem gX6_one_X6_code : GoodIn wsX6_one (wsV RX6 44 RX6 yX6_code wsX6_code) := goodIn_app (goodIn_of _ (by decide +kernel)) ggX6_one_X6_code
set_option maxRecDepth 20000 in
theorem ggX6_one_X1_init : GoodIn wsX6_one wsX1_init := goodIn_r _ [27, 28, 29, 6, 30, 31, 32, 9, 33, 34, 35, 36, 37, 38, 39, 40, 43, 44, 45, 46, 47, 48, 49, 50, 51, 52, 53, 54] (by decide +kernel) (by decide +kernel)
set_option maxRecDepth 20000 in
theorem gX6_one_X1_init : GoodIn wsX6_one (wsX1_init) := ggX6_one_X1_init
set_option maxRecDepth 20000 in
theorem ggX6_one_X2_init : GoodIn wsX6_one wsX2_init := goodIn_r _ [30, 31, 32, 9, 33, 34, 35, 36, 37, 38, 39, 40, 43, 44, 45, 46, 47, 48, 49, 50, 51, 52, 53, 54] (by decide +kernel) (by decide +kernel)
set_option maxRecDepth 20000 in
theorem gX6_one_X2_init : GoodIn wsX6_one (wsX2_init) := ggX6_one_X2_init
set_option maxRecDepth 20000 in
theorem ggX6_one_X3_init : GoodIn wsX6_one wsX3_init := goodIn_r _ [33, 34, 35, 36, 37, 38, 39, 40, 43, 44, 45, 46, 47, 48, 49, 50, 51, 52, 53, 54] (by decide +kernel) (by decide +kernel)
set_option maxRecDepth 20000 in
theorem gX6_one_X3_init : GoodIn wsX6_one (wsX3_init) := ggX6_one_X3_init
set_option maxRecDepth 20000 in
theorem ggX6_digit_X6_code : GoodIn wsX6_digit wsX6_code := goodIn_r _ [5, 6, 7, 8, 9] (by decide +kernel) (by decide +kernel)
set_option maxRecDepth 20000 in
theorem gX6_digit_X6_code : GoodIn wsX6_digit (wsV RX6 44 RX6 yX6_code wsX6_code) := goodIn_app (goodIn_of _ (by decide +kernel)) ggX6_digit_X6_code
set_option maxRecDepth 20000 in
theorem ggX6_pair_X6_digit : GoodIn wsX6_pair wsX6_digit := goodIn_r _ [5, 6, 7, 8, 4, 9, 10, 11, 12, 13] (by decide +kernel) (by decide +kernel)
set_option maxRecDepth 20000 in
theorem gX6_pair_X6_digit : GoodIn wsX6_pair (wsV RX6 37 RX6 yX6_digit wsX6_digit) := goodIn_app (goodIn_of _ (by decide +kernel)) ggX6_pair_X6_digit
set_option maxRecDepth 20000 in
theorem ggX6_goesOn_X6_code : GoodIn wsX6_goesOn wsX6_code := goodIn_r _ [5, 6, 7, 20, 21] (by decide +kernel) (by decide +kernel)
set_option maxRecDepth 20000 in
theorem gX6_goesOn_X6_code : GoodIn wsX6_goesOn (wsV RX6 44 RX6 yX6_code wsX6_code) := goodIn_app (goodIn_of _ (by decide +kernel)) ggX6_goesOn_X6_code
set_option maxRecDepth 20000 in
theorem ggX6_goesOn_X6_digit : GoodIn wsX6_goesOn wsX6_digit := goodIn_r _ [11, 1, 2, 3, 4, 5, 6, 7, 20, 21] (by decide +kernel) (by decide +kernel)
set_option maxRecDepth 20000 in
theorem gX6_goesOn_X6_digit : GoodIn wsX6_goesOn (wsV RX6 37 RX6 yX6_digit wsX6_digit) := goodIn_app (goodIn_of _ (by decide +kernel)) ggX6_goesOn_X6_digit
set_option maxRecDepth 20000 in
theorem ggX6_goesOn_X6_isPairGoingOn : GoodIn wsX6_goesOn wsX6_isPairGoingOn := goodIn_r _ [15, 8, 9, 10, 4, 11, 1, 2, 3, 5, 6, 7, 16, 17, 18, 19, 20, 21] (by decide +kernel) (by decide +kernel)
set_option maxRecDepth 20000 in
theorem gX6_goesOn_X6_isPairGoingOn : GoodIn wsX6_goesOn (wsV RX6 58 RX6 yX6_isPairGoingOn wsX6_isPairGoingOn) := goodIn_app (goodIn_of _ (by decide +kernel)) ggX6_goesOn_X6_isPairGoingOn
set_option maxRecDepth 20000 in
theorem ggX6_isPairGoingOn_X6_digit : GoodIn wsX6_isPairGoingOn wsX6_digit := goodIn_r _ [5, 6, 7, 8, 4, 9, 10, 11, 16, 17] (by decide +kernel) (by decide +kernel)
set_option maxRecDepth 20000 in
theorem gX6_isPairGoingOn_X6_digit : GoodIn wsX6_isPairGoingOn (wsV RX6 37 RX6 yX6_digit wsX6_digit) := goodIn_app (goodIn_of _ (by decide +kernel)) ggX6_isPairGoingOn_X6_digit
set_option maxRecDepth 20000 in
theorem ggX6_isPairGoingOn_X6_pair : GoodIn wsX6_isPairGoingOn wsX6_pair := goodIn_r _ [15, 1, 2, 3, 4, 5, 6, 7, 8, 9, 10, 11, 16, 17] (by decide +kernel) (by decide +kernel)
set_option maxRecDepth 20000 in
theorem gX6_isPairGoingOn_X6_pair : GoodIn wsX6_isPairGoingOn (wsV RX6 41 RX6 yX6_pair wsX6_pair) := goodIn_app (goodIn_of _ (by decide +kernel)) ggX6_isPairGoingOn_X6_pair
set_option maxRecDepth 20000 in
theorem ggX6_isSecondDigit_X6_digit : GoodIn wsX6_isSecondDigit wsX6_digit := goodIn_r _ [5, 6, 7, 8, 4, 9, 10, 11, 12, 13] (by decide +kernel) (by decide +kernel)
set_option maxRecDepth 20000 in
theorem gX6_isSecondDigit_X6_digit : GoodIn wsX6_isSecondDigit (wsV RX6 37 RX6 yX6_digit wsX6_digit) := goodIn_app (goodIn_of _ (by decide +kernel)) ggX6_isSecondDigit_X6_digit
set_option maxRecDepth 20000 in
theorem ggX7_hasRow_X7_laneOf : GoodIn wsX7_hasRow wsX7_laneOf := goodIn_r _ [5, 6, 7, 8, 9] (by decide +kernel) (by decide +kernel)
set_option maxRecDepth 20000 in
theorem gX7_hasRow_X7_laneOf : GoodIn wsX7_hasRow (wsV RX7 21 RX7 yX7_laneOf wsX7_laneOf) := goodIn_app (goodIn_of _ (by decide +kernel)) ggX7_hasRow_X7_laneOf
set_option maxRecDepth 20000 in
theorem ggX7_hasCells_X7_sizeOf : GoodIn wsX7_hasCells wsX7_sizeOf := goodIn_r _ [5, 6, 7, 8, 9] (by decide +kernel) (by decide +kernel)
set_option maxRecDepth 20000 in
theorem gX7_hasCells_X7_sizeOf : GoodIn wsX7_hasCells (wsV RX7 25 RX7 yX7_sizeOf wsX7_sizeOf) := goodIn_app (goodIn_of _ (by decide +kernel)) ggX7_hasCells_X7_sizeOf
set_option maxRecDepth 20000 in
theorem ggX7_standOf_X7_sizeOf : GoodIn wsX7_standOf wsX7_sizeOf := goodIn_r _ [6, 7, 8, 9, 10] (by decide +kernel) (by decide +kernel)
set_option maxRecDepth 20000 in
theorem gX7_standOf_X7_sizeOf : GoodIn wsX7_standOf (wsV RX7 25 RX7 yX7_sizeOf wsX7_sizeOf) := goodIn_app (goodIn_of _ (by decide +kernel)) ggX7_standOf_X7_sizeOf
set_option maxRecDepth 20000 in
theorem ggX7_hasCell_X7_standOf : GoodIn wsX7_hasCell wsX7_standOf := goodIn_r _ [5, 6, 7, 8, 9, 4, 10, 11, 12, 13, 14] (by decide +kernel) (by decide +kernel)
set_option maxRecDepth 20000 in
theorem gX7_hasCell_X7_standOf : GoodIn wsX7_hasCell (wsV RX7 28 RX7 yX7_standOf wsX7_standOf) := goodIn_app (goodIn_of _ (by decide +kernel)) ggX7_hasCell_X7_standOf
set_option maxRecDepth 20000 in
theorem ggX7_at_X7_standOf : GoodIn wsX7_at wsX7_standOf := goodIn_r _ [6, 1, 7, 8, 9, 5, 10, 11, 12, 13, 14] (by decide +kernel) (by decide +kernel)
set_option maxRecDepth 20000 in
theorem gX7_at_X7_standOf : GoodIn wsX7_at (wsV RX7 28 RX7 yX7_standOf wsX7_standOf) := goodIn_app (goodIn_of _ (by decide +kernel)) ggX7_at_X7_standOf
set_option maxRecDepth 20000 in
theorem ggX7_set_X7_standOf : GoodIn wsX7_set wsX7_standOf := goodIn_r _ [6, 1, 7, 8, 9, 5, 10, 11, 20, 21, 22] (by decide +kernel) (by decide +kernel)
set_option maxRecDepth 20000 in
theorem gX7_set_X7_standOf : GoodIn wsX7_set (wsV RX7 28 RX7 yX7_standOf wsX7_standOf) := goodIn_app (goodIn_of _ (by decide +kernel)) ggX7_set_X7_standOf
set_option maxRecDepth 20000 in
theorem ggX7_set_X7_laneOf : GoodIn wsX7_set wsX7_laneOf := goodIn_r _ [15, 16, 20, 21, 22] (by decide +kernel) (by decide +kernel)
set_option maxRecDepth 20000 in
theorem gX7_set_X7_laneOf : GoodIn wsX7_set (wsV RX7 21 RX7 yX7_laneOf wsX7_laneOf) := goodIn_app (goodIn_of _ (by decide +kernel)) ggX7_set_X7_laneOf
set_option maxRecDepth 20000 in
theorem ggX7_set_X7_cut : GoodIn wsX7_set wsX7_cut := goodIn_r _ [19] (by decide +kernel) (by decide +kernel)
set_option maxRecDepth 20000 in
theorem gX7_set_X7_cut : GoodIn wsX7_set (va_wsS RX7 32 yX7_cut wsX7_cut) := goodIn_app (goodIn_of _ (by decide +kernel)) ggX7_set_X7_cut
set_option maxRecDepth 20000 in
theorem ggX7_clear_X7_renew : GoodIn wsX7_clear wsX7_renew := goodIn_r _ [5, 6, 7, 8, 9, 10, 4, 11, 12, 13, 14, 15, 16, 17, 18, 19, 20, 21, 22, 23, 24, 25, 26, 27, 28, 29, 30] (by decide +kernel) (by decide +kernel)
set_option maxRecDepth 20000 in
theorem gX7_clear_X7_renew : GoodIn wsX7_clear (wsV RX7 35 RX7 yX7_renew wsX7_renew) := goodIn_app (goodIn_of _ (by decide +kernel)) ggX7_clear_X7_renew
set_option maxRecDepth 20000 in
theorem ggX7_renew_X7_set : GoodIn wsX7_renew wsX7_set := goodIn_r _ [7, 8, 9, 10, 11, 6, 12, 13, 14, 15, 16, 2, 17, 18, 19, 20, 1, 21, 22, 23, 24, 25, 26] (by decide +kernel) (by decide +kernel)
set_option maxRecDepth 20000 in
theorem gX7_renew_X7_set : GoodIn wsX7_renew (wsV RX7 39 RX7 yX7_set wsX7_set) := goodIn_app (goodIn_of _ (by decide +kernel)) ggX7_renew_X7_set
set_option maxRecDepth 20000 in
theorem ggX7_move_X7_hasCells : GoodIn wsX7_move wsX7_hasCells := goodIn_r _ [10, 11, 12, 13, 9, 14, 15, 16, 17, 18] (by decide +kernel) (by decide +kernel)
set_option maxRecDepth 20000 in
theorem gX7_move_X7_hasCells : GoodIn wsX7_move (wsV RX7 42 RX7 yX7_hasCells wsX7_hasCells) := goodIn_app (goodIn_of _ (by decide +kernel)) ggX7_move_X7_hasCells
set_option maxRecDepth 20000 in
theorem ggX9_init_X7_init : GoodIn wsX9_init wsX7_init := goodIn_r _ [32, 33, 2, 3, 34, 35, 36, 37, 62, 63, 64] (by decide +kernel) (by decide +kernel)
set_option maxRecDepth 20000 in
theorem gX9_init_X7_init : GoodIn wsX9_init (wsX7_init) := ggX9_init_X7_init
set_option maxRecDepth 20000 in
theorem ggX9_init_X6_init : GoodIn wsX9_init wsX6_init := goodIn_r _ [39, 40, 2, 3, 34, 41, 42, 73, 74] (by decide +kernel) (by decide +kernel)
set_option maxRecDepth 20000 in
theorem gX9_init_X6_init_n20 : GoodIn wsX9_init (wsX6_init) := ggX9_init_X6_init
set_option maxRecDepth 20000 in
theorem ggX9_init_X4_init : GoodIn wsX9_init wsX4_init := goodIn_r _ [44, 45, 2, 3, 46, 47, 48, 75, 76] (by decide +kernel) (by decide +kernel)
set_option maxRecDepth 20000 in
theorem gX9_init_X4_init_n27 : GoodIn wsX9_init (wsX4_init) := ggX9_init_X4_init
set_option maxRecDepth 20000 in
theorem ggX9_init_X8_init : GoodIn wsX9_init wsX8_init := goodIn_r _ [50, 51, 2, 3, 52, 77] (by decide +kernel) (by decide +kernel)
set_option maxRecDepth 20000 in
theorem gX9_init_X8_init_n34 : GoodIn wsX9_init (wsX8_init) := ggX9_init_X8_init
set_option maxRecDepth 20000 in
theorem ggX9_init_X0_init : GoodIn wsX9_init wsX0_init := goodIn_r _ [54, 55, 2, 3, 34, 56, 78] (by decide +kernel) (by decide +kernel)
set_option maxRecDepth 20000 in
theorem gX9_init_X0_init_n41 : GoodIn wsX9_init (wsX0_init) := ggX9_init_X0_init
set_option maxRecDepth 20000 in
theorem ggX9_init_X5_init : GoodIn wsX9_init wsX5_init := goodIn_r _ [58, 59, 2, 3, 34, 60, 61, 79, 80] (by decide +kernel) (by decide +kernel)
set_option maxRecDepth 20000 in
theorem gX9_init_X5_init_n51 : GoodIn wsX9_init (wsX5_init) := ggX9_init_X5_init
set_option maxRecDepth 20000 in
theorem ggX9_roll_X9_refusalOfCells : GoodIn wsX9_roll wsX9_refusalOfCells := goodIn_r _ [8, 9, 2, 10, 11, 7, 12, 13, 14, 15, 16, 17, 18, 19, 20, 21, 22, 23, 24, 25, 26, 27, 28, 29, 30, 31, 32, 33, 34, 35, 36, 37, 38, 39, 40, 41, 42, 43, 44, 45, 46, 142, 143, 144, 145, 146, 147, 148, 149, 150, 151, 152] (by decide +kernel) (by decide +kernel)
set_option maxRecDepth 20000 in
theorem gX9_roll_X9_refusalOfCells : GoodIn wsX9_roll (wsV RX9 60 RX9 yX9_refusalOfCells wsX9_refusalOfCells) := goodIn_app (goodIn_of _ (by decide +kernel)) ggX9_roll_X9_refusalOfCells
set_option maxRecDepth 20000 in
theorem ggX9_roll_X6_read : GoodIn wsX9_roll wsX6_read := goodIn_r _ [51, 52, 53, 54, 55, 56, 57, 58, 59, 60, 26, 61, 62, 63, 64, 65, 66, 42, 43, 44, 45, 46, 153, 154, 150, 151, 152] (by decide +kernel) (by decide +kernel)
set_option maxRecDepth 20000 in
theorem gX9_roll_X6_read : GoodIn wsX9_roll (wsV RX9 64 RX6 yX6_read wsX6_read) := goodIn_app (goodIn_of _ (by decide +kernel)) ggX9_roll_X6_read
set_option maxRecDepth 20000 in
theorem ggX9_roll_X6_firstFault : GoodIn wsX9_roll wsX6_firstFault := goodIn_r _ [70, 57, 71, 72, 73, 50, 74, 75, 76, 77, 78, 52, 79, 80, 81, 82, 83, 84, 85, 86, 87, 88, 89, 90, 91, 92, 93, 94, 153, 154] (by decide +kernel) (by decide +kernel)
set_option maxRecDepth 20000 in
theorem gX9_roll_X6_firstFault : GoodIn wsX9_roll (wsV RX9 68 RX6 yX6_firstFault wsX6_firstFault) := goodIn_app (goodIn_of _ (by decide +kernel)) ggX9_roll_X6_firstFault
set_option maxRecDepth 20000 in
theorem ggX9_roll_X4_takeFrom : GoodIn wsX9_roll wsX4_takeFrom := goodIn_r _ [99, 100, 101, 54, 55, 56, 102, 103, 104, 105, 50, 106, 57, 107, 108, 109, 110, 111, 112, 113, 114, 115, 116, 117, 118, 119, 79, 80, 81, 82, 75, 76, 77, 78, 52, 87, 88, 89, 90, 120, 121, 122, 123, 124, 125, 126, 127, 128, 129, 130, 131, 132, 133, 134, 135, 136, 137, 155, 156, 153, 154, 157, 158, 159, 160, 161, 162, 163, 164, 165, 166, 167, 168] (by decide +kernel) (by decide +kernel)
set_option maxRecDepth 20000 in
theorem gX9_roll_X4_takeFrom : GoodIn wsX9_roll (wsV RX9 72 RX4 yX4_takeFrom wsX4_takeFrom) := goodIn_app (goodIn_of _ (by decide +kernel)) ggX9_roll_X4_takeFrom
set_option maxRecDepth 20000 in
theorem ggX9_roll_X4_size : GoodIn wsX9_roll wsX4_size := goodIn_r _ [141, 102, 155, 156] (by decide +kernel) (by decide +kernel)
set_option maxRecDepth 20000 in
theorem gX9_roll_X4_size : GoodIn wsX9_roll (wsV RX9 76 RX4 yX4_size wsX4_size) := goodIn_app (goodIn_of _ (by decide +kernel)) ggX9_roll_X4_size
set_option maxRecDepth 20000 in
theorem ggX9_ofOne_X4_one : GoodIn wsX9_ofOne wsX4_one := goodIn_r _ [6, 7, 8, 45, 46] (by decide +kernel) (by decide +kernel)
set_option maxRecDepth 20000 in
theorem gX9_ofOne_X4_one : GoodIn wsX9_ofOne (wsV RX9 79 RX4 yX4_one wsX4_one) := goodIn_app (goodIn_of _ (by decide +kernel)) ggX9_ofOne_X4_one
set_option maxRecDepth 20000 in
theorem ggX9_ofOne_X3_part : GoodIn wsX9_ofOne wsX3_part := goodIn_r _ [14, 15, 16, 17, 18, 19, 20, 21, 22, 23, 24, 25, 26, 27, 28, 29, 30, 31, 32, 33, 13, 47, 48, 49, 50, 51, 52, 53, 54, 55, 56, 57, 58] (by decide +kernel) (by decide +kernel)
set_option maxRecDepth 20000 in
theorem gX9_ofOne_X3_part_u83X1 : GoodIn wsX9_ofOne (va_wsU RX9 83 RX1 "LivingNumbers$Named" ⟨"LivingNumbers$Named", "part", "(I)I"⟩ yX3_part wsX3_part) := goodIn_app (goodIn_of _ (by decide +kernel)) ggX9_ofOne_X3_part
set_option maxRecDepth 20000 in
theorem gX9_ofOne_X3_part_u83X2 : GoodIn wsX9_ofOne (va_wsU RX9 83 RX2 "LivingNumbers$Named" ⟨"LivingNumbers$Named", "part", "(I)I"⟩ yX3_part wsX3_part) := goodIn_app (goodIn_of _ (by decide +kernel)) ggX9_ofOne_X3_part
set_option maxRecDepth 20000 in
theorem gX9_ofOne_X3_part : GoodIn wsX9_ofOne (wsV RX9 83 RX3 yX3_part wsX3_part) := goodIn_app (goodIn_of _ (by decide +kernel)) ggX9_ofOne_X3_part
set_option maxRecDepth 20000 in
theorem ggX9_lives_X4_one : GoodIn wsX9_lives wsX4_one := goodIn_r _ [6, 7, 8, 60, 61] (by decide +kernel) (by decide +kernel)
set_option maxRecDepth 20000 in
theorem gX9_lives_X4_one : GoodIn wsX9_lives (wsV RX9 79 RX4 yX4_one wsX4_one) := goodIn_app (goodIn_of _ (by decide +kernel)) ggX9_lives_X4_one
set_option maxRecDepth 20000 in
theorem ggX9_lives_X9_isVillage : GoodIn wsX9_lives wsX9_isVillage := goodIn_r _ [12] (by decide +kernel) (by decide +kernel)
set_option maxRecDepth 20000 in
theorem gX9_lives_X9_isVillage : GoodIn wsX9_lives (va_wsS RX9 89 yX9_isVillage wsX9_isVillage) := goodIn_app (goodIn_of _ (by decide +kernel)) ggX9_lives_X9_isVillage
set_option maxRecDepth 20000 in
theorem ggX9_lives_X9_isDay : GoodIn wsX9_lives wsX9_isDay := goodIn_r _ [15] (by decide +kernel) (by decide +kernel)
set_option maxRecDepth 20000 in
theorem gX9_lives_X9_isDay : GoodIn wsX9_lives (va_wsS RX9 93 yX9_isDay wsX9_isDay) := goodIn_app (goodIn_of _ (by decide +kernel)) ggX9_lives_X9_isDay
set_option maxRecDepth 20000 in
theorem ggX9_lives_X3_isHeard : GoodIn wsX9_lives wsX3_isHeard := goodIn_r _ [21, 22, 23, 24, 25, 26, 27, 28, 29, 30, 31, 32, 33, 20, 34, 35, 36, 37, 38, 39, 40, 41, 42, 43, 44, 45, 46, 47, 48, 62, 63, 64, 65, 66, 67, 68, 69, 70, 71, 72, 73] (by decide +kernel) (by decide +kernel)
set_option maxRecDepth 20000 in
theorem gX9_lives_X3_isHeard_u96X1 : GoodIn wsX9_lives (va_wsU RX9 96 RX1 "LivingNumbers$Named" ⟨"LivingNumbers$Named", "isHeard", "(II)Z"⟩ yX3_isHeard wsX3_isHeard) := goodIn_app (goodIn_of _ (by decide +kernel)) ggX9_lives_X3_isHeard
set_option maxRecDepth 20000 in
theorem gX9_lives_X3_isHeard_u96X2 : GoodIn wsX9_lives (va_wsU RX9 96 RX2 "LivingNumbers$Named" ⟨"LivingNumbers$Named", "isHeard", "(II)Z"⟩ yX3_isHeard wsX3_isHeard) := goodIn_app (goodIn_of _ (by decide +kernel)) ggX9_lives_X3_isHeard
set_option maxRecDepth 20000 in
theorem gX9_lives_X3_isHeard : GoodIn wsX9_lives (wsV RX9 96 RX3 yX3_isHeard wsX3_isHeard) := goodIn_app (goodIn_of _ (by decide +kernel)) ggX9_lives_X3_isHeard
set_option maxRecDepth 20000 in
theorem ggX9_word_X9_isVillage : GoodIn wsX9_word wsX9_isVillage := goodIn_r _ [5] (by decide +kernel) (by decide +kernel)
set_option maxRecDepth 20000 in
theorem gX9_word_X9_isVillage : GoodIn wsX9_word (va_wsS RX9 89 yX9_isVillage wsX9_isVillage) := goodIn_app (goodIn_of _ (by decide +kernel)) ggX9_word_X9_isVillage
set_option maxRecDepth 20000 in
theorem ggX9_word_X9_isDay : GoodIn wsX9_word wsX9_isDay := goodIn_r _ [8] (by decide +kernel) (by decide +kernel)
set_option maxRecDepth 20000 in
theorem gX9_word_X9_isDay : GoodIn wsX9_word (va_wsS RX9 93 yX9_isDay wsX9_isDay) := goodIn_app (goodIn_of _ (by decide +kernel)) ggX9_word_X9_isDay
set_option maxRecDepth 20000 in
theorem ggX9_word_X4_bearer : GoodIn wsX9_word wsX4_bearer := goodIn_r _ [13, 14, 15, 16, 17, 12, 18, 19, 20, 21, 22, 23, 24, 25, 26, 27, 28, 29, 30, 31, 32, 33, 34, 35, 36, 37, 38, 39, 40, 41, 42, 43, 44, 45, 46, 47, 48, 49, 50, 51, 52, 53, 54, 55, 56, 57, 58, 59, 60, 61, 62, 63, 64, 73, 74, 75, 76, 77, 78, 79, 80, 81, 82, 83, 84, 85, 86] (by decide +kernel) (by decide +kernel)
set_option maxRecDepth 20000 in
theorem gX9_word_X4_bearer : GoodIn wsX9_word (wsV RX9 100 RX4 yX4_bearer wsX4_bearer) := goodIn_app (goodIn_of _ (by decide +kernel)) ggX9_word_X4_bearer
set_option maxRecDepth 20000 in
theorem ggX9_sayable_X9_isVillage : GoodIn wsX9_sayable wsX9_isVillage := goodIn_r _ [5] (by decide +kernel) (by decide +kernel)
set_option maxRecDepth 20000 in
theorem gX9_sayable_X9_isVillage : GoodIn wsX9_sayable (va_wsS RX9 89 yX9_isVillage wsX9_isVillage) := goodIn_app (goodIn_of _ (by decide +kernel)) ggX9_sayable_X9_isVillage
set_option maxRecDepth 20000 in
theorem ggX9_sayable_X9_isDay : GoodIn wsX9_sayable wsX9_isDay := goodIn_r _ [8] (by decide +kernel) (by decide +kernel)
set_option maxRecDepth 20000 in
theorem gX9_sayable_X9_isDay : GoodIn wsX9_sayable (va_wsS RX9 93 yX9_isDay wsX9_isDay) := goodIn_app (goodIn_of _ (by decide +kernel)) ggX9_sayable_X9_isDay
set_option maxRecDepth 20000 in
theorem ggX9_sayable_X4_bearer : GoodIn wsX9_sayable wsX4_bearer := goodIn_r _ [13, 14, 15, 16, 17, 12, 18, 19, 20, 21, 22, 23, 24, 25, 26, 27, 28, 29, 30, 31, 32, 33, 34, 35, 36, 37, 38, 39, 40, 41, 42, 43, 44, 45, 46, 47, 48, 49, 50, 51, 52, 53, 54, 55, 56, 57, 58, 59, 60, 61, 62, 63, 64, 73, 74, 75, 76, 77, 78, 79, 80, 81, 82, 83, 84, 85, 86] (by decide +kernel) (by decide +kernel)
set_option maxRecDepth 20000 in
theorem gX9_sayable_X4_bearer : GoodIn wsX9_sayable (wsV RX9 100 RX4 yX4_bearer wsX4_bearer) := goodIn_app (goodIn_of _ (by decide +kernel)) ggX9_sayable_X4_bearer
set_option maxRecDepth 20000 in
theorem ggX9_means_X9_isDay : GoodIn wsX9_means wsX9_isDay := goodIn_r _ [4] (by decide +kernel) (by decide +kernel)
set_option maxRecDepth 20000 in
theorem gX9_means_X9_isDay : GoodIn wsX9_means (va_wsS RX9 93 yX9_isDay wsX9_isDay) := goodIn_app (goodIn_of _ (by decide +kernel)) ggX9_means_X9_isDay
set_option maxRecDepth 20000 in
theorem ggX9_means_X9_refusalOfRow : GoodIn wsX9_means wsX9_refusalOfRow := goodIn_r _ [8, 9, 10, 11, 12, 13, 3, 14, 15, 16, 17, 18, 19, 20, 21, 22, 23, 24, 25, 26, 27, 28, 29, 30, 31, 32, 33, 34, 35, 36, 37, 38, 39, 40, 41, 42, 43, 44, 45, 46, 47, 48, 49, 50, 51, 52, 53, 54, 55, 56, 57, 58, 59, 60, 61, 62, 63, 64, 65, 66, 67, 68, 118, 119, 120, 121, 122, 123, 124, 125, 126, 127, 128, 129, 130] (by decide +kernel) (by decide +kernel)
set_option maxRecDepth 20000 in
theorem gX9_means_X9_refusalOfRow : GoodIn wsX9_means (wsV RX9 104 RX9 yX9_refusalOfRow wsX9_refusalOfRow) := goodIn_app (goodIn_of _ (by decide +kernel)) ggX9_means_X9_refusalOfRow
set_option maxRecDepth 20000 in
theorem ggX9_means_X9_meaning : GoodIn wsX9_means wsX9_meaning := goodIn_r _ [72, 9, 10, 53, 54, 55, 32, 56, 57, 58, 59, 60, 61, 48, 49, 50, 51, 52, 62, 63, 64, 65, 66, 67, 68, 73, 74, 75, 76, 77, 78, 79, 80, 81, 82, 83, 84, 85, 86, 87, 88, 89, 90, 91, 92, 93, 94, 95, 96, 97, 98, 99, 100, 101, 102, 103, 104, 105, 106, 107, 108, 109, 110, 111, 112, 113, 114, 115, 116, 117, 118, 119, 120, 121, 122, 123, 124, 125, 126, 127, 128, 129, 130, 131, 132, 133, 134, 135, 136, 137, 138, 139, 140, 141, 142] (by decide +kernel) (by decide +kernel)
set_option maxRecDepth 20000 in
theorem gX9_means_X9_meaning : GoodIn wsX9_means (wsV RX9 107 RX9 yX9_meaning wsX9_meaning) := goodIn_app (goodIn_of _ (by decide +kernel)) ggX9_means_X9_meaning
set_option maxRecDepth 20000 in
theorem ggX9_say_X9_isVillage : GoodIn wsX9_say wsX9_isVillage := goodIn_r _ [4] (by decide +kernel) (by decide +kernel)
set_option maxRecDepth 20000 in
theorem gX9_say_X9_isVillage : GoodIn wsX9_say (va_wsS RX9 89 yX9_isVillage wsX9_isVillage) := goodIn_app (goodIn_of _ (by decide +kernel)) ggX9_say_X9_isVillage
set_option maxRecDepth 20000 in
theorem ggX9_say_X9_isQuantity : GoodIn wsX9_say wsX9_isQuantity := goodIn_r _ [7] (by decide +kernel) (by decide +kernel)
set_option maxRecDepth 20000 in
theorem gX9_say_X9_isQuantity : GoodIn wsX9_say (va_wsS RX9 111 yX9_isQuantity wsX9_isQuantity) := goodIn_app (goodIn_of _ (by decide +kernel)) ggX9_say_X9_isQuantity
set_option maxRecDepth 20000 in
theorem ggX9_say_X9_isDay : GoodIn wsX9_say wsX9_isDay := goodIn_r _ [10] (by decide +kernel) (by decide +kernel)
set_option maxRecDepth 20000 in
theorem gX9_say_X9_isDay : GoodIn wsX9_say (va_wsS RX9 93 yX9_isDay wsX9_isDay) := goodIn_app (goodIn_of _ (by decide +kernel)) ggX9_say_X9_isDay
set_option maxRecDepth 20000 in
theorem ggX9_say_X9_fewestWords : GoodIn wsX9_say wsX9_fewestWords := goodIn_r _ [14, 15, 16, 17, 18, 19, 20, 21, 22, 23, 24, 25, 26, 27, 28, 29, 30, 31, 32, 33, 34, 35, 36, 37, 38, 39, 40, 41, 42, 43, 44, 45, 46, 47, 48, 49, 50, 51, 52, 53, 54, 55, 56, 57, 58, 59, 60, 61, 62, 63, 64, 65, 66, 67, 68, 69, 70, 71, 72, 73, 74, 75, 76, 77, 78, 79, 80, 81, 82, 83, 84, 85, 86, 87, 88, 89, 90, 91, 92, 102, 103, 104, 105, 106, 107, 108, 109, 110, 111, 112, 113, 114, 115, 116, 117, 118, 119, 120, 121, 122, 123, 124] (by decide +kernel) (by decide +kernel)
