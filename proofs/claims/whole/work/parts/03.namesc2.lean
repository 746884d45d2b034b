set_option maxRecDepth 20000 in
theorem ggX2_basin_X2_isLevel : GoodIn wsX2_basin wsX2_isLevel := goodIn_r _ [6, 7] (by rfl) (by decide +kernel)
set_option maxRecDepth 20000 in
theorem gX2_basin_X2_isLevel : GoodIn wsX2_basin (va_wsS RX2 60 yX2_isLevel wsX2_isLevel) := goodIn_app (goodIn_of _ (by decide +kernel)) ggX2_basin_X2_isLevel
set_option maxRecDepth 20000 in
theorem ggX2_fill_X2_isBasin : GoodIn wsX2_fill wsX2_isBasin := goodIn_r _ [6, 7, 1, 12, 13, 14, 15, 16, 17, 18, 19, 20, 21, 22, 23, 24, 25] (by rfl) (by decide +kernel)
set_option maxRecDepth 20000 in
theorem gX2_fill_X2_isBasin : GoodIn wsX2_fill (wsV RX2 64 RX2 yX2_isBasin wsX2_isBasin) := goodIn_app (goodIn_of _ (by decide +kernel)) ggX2_fill_X2_isBasin
set_option maxRecDepth 20000 in
theorem ggX2_fill_X2_isLevel : GoodIn wsX2_fill wsX2_isLevel := goodIn_r _ [10, 11] (by rfl) (by decide +kernel)
set_option maxRecDepth 20000 in
theorem gX2_fill_X2_isLevel : GoodIn wsX2_fill (va_wsS RX2 60 yX2_isLevel wsX2_isLevel) := goodIn_app (goodIn_of _ (by decide +kernel)) ggX2_fill_X2_isLevel
set_option maxRecDepth 20000 in
theorem ggX2_make_X2_hasKnownParts : GoodIn wsX2_make wsX2_hasKnownParts := goodIn_r _ [11, 12, 13, 14, 10, 15, 16, 17, 18, 19, 20, 21, 22, 23, 24, 25, 2, 26, 27, 28, 29, 30, 31, 32, 33, 34, 110, 111, 112, 113, 114, 115, 116, 117, 118, 119, 120, 121, 122, 123, 124, 125, 126, 127, 128, 129, 130, 131] (by rfl) (by decide +kernel)
set_option maxRecDepth 20000 in
theorem gX2_make_X2_hasKnownParts : GoodIn wsX2_make (wsV RX2 67 RX2 yX2_hasKnownParts wsX2_hasKnownParts) := goodIn_app (goodIn_of _ (by decide +kernel)) ggX2_make_X2_hasKnownParts
set_option maxRecDepth 20000 in
theorem ggX2_make_X2_hasFitNumbers : GoodIn wsX2_make wsX2_hasFitNumbers := goodIn_r _ [37] (by rfl) (by decide +kernel)
set_option maxRecDepth 20000 in
theorem gX2_make_X2_hasFitNumbers : GoodIn wsX2_make (va_wsS RX2 71 yX2_hasFitNumbers wsX2_hasFitNumbers) := goodIn_app (goodIn_of _ (by decide +kernel)) ggX2_make_X2_hasFitNumbers
set_option maxRecDepth 20000 in
theorem ggX2_make_X2_askByCall : GoodIn wsX2_make wsX2_askByCall := goodIn_r _ [41, 42, 3, 43, 44, 45, 10, 46, 47, 48, 49, 50, 51, 52, 53, 54, 55, 56, 57, 22, 23, 24, 25, 2, 58, 59, 60, 61, 62, 63, 64, 65, 66, 67, 68, 69, 70, 71, 34, 30, 31, 32, 33, 72, 73, 74, 75, 76, 77, 78, 79, 17, 12, 13, 14, 15, 16, 80, 81, 82, 83, 84, 85, 86, 87, 88, 89, 90, 91, 92, 93, 94, 95, 96, 26, 27, 28, 29, 110, 111, 112, 113, 114, 115, 116, 117, 118, 119, 120, 121, 122, 123, 124, 125, 126, 127, 128, 129, 130, 131] (by rfl) (by decide +kernel)
set_option maxRecDepth 20000 in
theorem gX2_make_X2_askByCall : GoodIn wsX2_make (wsV RX2 75 RX2 yX2_askByCall wsX2_askByCall) := goodIn_app (goodIn_of _ (by decide +kernel)) ggX2_make_X2_askByCall
set_option maxRecDepth 20000 in
theorem ggX2_make_X0_init : GoodIn wsX2_make wsX0_init := goodIn_r _ [98, 99, 100, 101, 102, 103, 104, 105, 106, 107, 108, 109, 124, 125, 126, 127, 128, 129, 130, 131] (by rfl) (by decide +kernel)
set_option maxRecDepth 20000 in
theorem gX2_make_X0_init_n79 : GoodIn wsX2_make (wsX0_init) := ggX2_make_X0_init
set_option maxRecDepth 20000 in
theorem ggX2_put_X2_isSlot : GoodIn wsX2_put wsX2_isSlot := goodIn_r _ [6, 1, 16, 17, 18, 19, 20, 21, 22, 23, 24, 25, 26, 27, 28, 29] (by rfl) (by decide +kernel)
set_option maxRecDepth 20000 in
theorem gX2_put_X2_isSlot : GoodIn wsX2_put (wsV RX2 85 RX2 yX2_isSlot wsX2_isSlot) := goodIn_app (goodIn_of _ (by decide +kernel)) ggX2_put_X2_isSlot
set_option maxRecDepth 20000 in
theorem ggX2_put_X2_isRuleOrNone : GoodIn wsX2_put wsX2_isRuleOrNone := goodIn_r _ [10, 11, 12, 13, 5, 14, 15, 16, 17, 18, 19, 20, 21, 22, 23, 24, 25, 26, 27, 28, 29] (by rfl) (by decide +kernel)
set_option maxRecDepth 20000 in
theorem gX2_put_X2_isRuleOrNone : GoodIn wsX2_put (wsV RX2 88 RX2 yX2_isRuleOrNone wsX2_isRuleOrNone) := goodIn_app (goodIn_of _ (by decide +kernel)) ggX2_put_X2_isRuleOrNone
set_option maxRecDepth 20000 in
theorem ggX2_ask_X2_ruleAt : GoodIn wsX2_ask wsX2_ruleAt := goodIn_r _ [7, 8, 83, 84, 85, 86, 87, 88, 89, 90, 91, 92, 93, 94, 95, 96] (by rfl) (by decide +kernel)
set_option maxRecDepth 20000 in
theorem gX2_ask_X2_ruleAt : GoodIn wsX2_ask (wsV RX2 91 RX2 yX2_ruleAt wsX2_ruleAt) := goodIn_app (goodIn_of _ (by decide +kernel)) ggX2_ask_X2_ruleAt
set_option maxRecDepth 20000 in
theorem ggX2_ask_X2_askByCall : GoodIn wsX2_ask wsX2_askByCall := goodIn_r _ [12, 13, 1, 14, 15, 16, 6, 17, 18, 19, 20, 21, 22, 23, 24, 25, 26, 27, 28, 3, 4, 5, 7, 8, 29, 30, 31, 32, 33, 34, 35, 36, 37, 38, 39, 40, 41, 42, 43, 44, 45, 46, 47, 48, 49, 50, 51, 52, 53, 54, 55, 56, 57, 58, 59, 60, 61, 62, 63, 64, 65, 66, 67, 68, 69, 70, 71, 72, 73, 74, 75, 76, 77, 78, 79, 80, 81, 82, 83, 84, 85, 86, 87, 88, 89, 90, 91, 92, 93, 94, 95, 96, 97, 98, 99, 100, 101, 102, 103, 104] (by rfl) (by decide +kernel)
set_option maxRecDepth 20000 in
theorem gX2_ask_X2_askByCall : GoodIn wsX2_ask (wsV RX2 75 RX2 yX2_askByCall wsX2_askByCall) := goodIn_app (goodIn_of _ (by decide +kernel)) ggX2_ask_X2_askByCall
set_option maxRecDepth 20000 in
theorem ggX2_sluice_X2_isBasin : GoodIn wsX2_sluice wsX2_isBasin := goodIn_r _ [10, 11, 12, 26, 27, 28, 29, 30, 31, 32, 33, 34, 35, 36, 37, 38, 39] (by rfl) (by decide +kernel)
set_option maxRecDepth 20000 in
theorem gX2_sluice_X2_isBasin : GoodIn wsX2_sluice (wsV RX2 64 RX2 yX2_isBasin wsX2_isBasin) := goodIn_app (goodIn_of _ (by decide +kernel)) ggX2_sluice_X2_isBasin
set_option maxRecDepth 20000 in
theorem ggX2_sluice_X2_ruleAt : GoodIn wsX2_sluice wsX2_ruleAt := goodIn_r _ [16, 17, 26, 27, 28, 29, 30, 31, 32, 33, 34, 35, 36, 37, 38, 39] (by rfl) (by decide +kernel)
set_option maxRecDepth 20000 in
theorem gX2_sluice_X2_ruleAt : GoodIn wsX2_sluice (wsV RX2 91 RX2 yX2_ruleAt wsX2_ruleAt) := goodIn_app (goodIn_of _ (by decide +kernel)) ggX2_sluice_X2_ruleAt
set_option maxRecDepth 20000 in
theorem ggX2_sluice_X1_init : GoodIn wsX2_sluice wsX1_init := goodIn_r _ [19, 20, 21, 22, 23, 24, 25, 40, 41, 42] (by rfl) (by decide +kernel)
set_option maxRecDepth 20000 in
theorem gX2_sluice_X1_init_n95 : GoodIn wsX2_sluice (wsX1_init) := ggX2_sluice_X1_init
set_option maxRecDepth 20000 in
theorem ggX2_run_X2_goesWhole : GoodIn wsX2_run wsX2_goesWhole := goodIn_r _ [8, 9, 10, 1, 2, 3, 11, 12, 13, 7, 14, 15, 16, 17, 18, 19, 20, 21, 22, 23, 24, 25, 26, 27, 28, 29, 30, 31, 32, 33, 34, 35, 36, 37, 38, 39, 40, 41, 42, 43, 44, 45, 46, 47, 48, 49, 50, 51, 52, 53, 54, 55, 56, 57, 58, 59, 60, 61, 62, 63, 64, 65, 66, 67, 68, 69, 70, 71, 72, 73, 74, 75, 76, 77, 78, 79, 80, 81, 82, 83, 84, 85, 86, 87, 88, 89, 90, 91, 92, 93, 94, 95, 96, 97, 98, 99, 100, 101, 102, 103, 104, 105, 106, 107, 108, 109, 110, 111, 112, 113, 114, 115, 116, 117, 118, 119, 120, 121, 122, 123, 124, 125, 126, 127, 128, 129] (by rfl) (by decide +kernel)
set_option maxRecDepth 20000 in
theorem gX2_run_X2_goesWhole : GoodIn wsX2_run (wsV RX2 98 RX2 yX2_goesWhole wsX2_goesWhole) := goodIn_app (goodIn_of _ (by decide +kernel)) ggX2_run_X2_goesWhole
set_option maxRecDepth 20000 in
theorem ggX2_level_X2_isBasin : GoodIn wsX2_level wsX2_isBasin := goodIn_r _ [6, 7, 1, 8, 9, 10, 11, 12, 13, 14, 15, 16, 17, 18, 19, 20, 21] (by rfl) (by decide +kernel)
set_option maxRecDepth 20000 in
theorem gX2_level_X2_isBasin : GoodIn wsX2_level (wsV RX2 64 RX2 yX2_isBasin wsX2_isBasin) := goodIn_app (goodIn_of _ (by decide +kernel)) ggX2_level_X2_isBasin
set_option maxRecDepth 20000 in
theorem ggX2_counted_X2_countedAt : GoodIn wsX2_counted wsX2_countedAt := goodIn_r _ [5, 6, 7, 8, 4, 9, 10, 11, 12, 13, 14, 15, 16, 17, 18, 19, 20, 21, 22, 23, 24, 25, 26, 27, 28, 29, 30, 31, 32] (by rfl) (by decide +kernel)
set_option maxRecDepth 20000 in
theorem gX2_counted_X2_countedAt : GoodIn wsX2_counted (wsV RX2 101 RX2 yX2_countedAt wsX2_countedAt) := goodIn_app (goodIn_of _ (by decide +kernel)) ggX2_counted_X2_countedAt
set_option maxRecDepth 20000 in
theorem ggX2_count_X2_isSlot : GoodIn wsX2_count wsX2_isSlot := goodIn_r _ [10, 5, 11, 12, 13, 14, 15, 16, 17, 18, 19, 20, 21, 22, 23, 24] (by rfl) (by decide +kernel)
set_option maxRecDepth 20000 in
theorem gX2_count_X2_isSlot : GoodIn wsX2_count (wsV RX2 85 RX2 yX2_isSlot wsX2_isSlot) := goodIn_app (goodIn_of _ (by decide +kernel)) ggX2_count_X2_isSlot
set_option maxRecDepth 20000 in
theorem ggX2_isRuleOrNone_X2_ruleAt : GoodIn wsX2_isRuleOrNone wsX2_ruleAt := goodIn_r _ [5, 6, 7, 8, 9, 10, 11, 12, 13, 14, 15, 16, 17, 18, 19, 20] (by rfl) (by decide +kernel)
set_option maxRecDepth 20000 in
theorem gX2_isRuleOrNone_X2_ruleAt : GoodIn wsX2_isRuleOrNone (wsV RX2 91 RX2 yX2_ruleAt wsX2_ruleAt) := goodIn_app (goodIn_of _ (by decide +kernel)) ggX2_isRuleOrNone_X2_ruleAt
set_option maxRecDepth 20000 in
theorem ggX2_countedAt_X2_ruleAt : GoodIn wsX2_countedAt wsX2_ruleAt := goodIn_r _ [5, 6, 15, 16, 17, 18, 19, 20, 21, 22, 23, 24, 25, 26, 27, 28] (by rfl) (by decide +kernel)
set_option maxRecDepth 20000 in
theorem gX2_countedAt_X2_ruleAt : GoodIn wsX2_countedAt (wsV RX2 91 RX2 yX2_ruleAt wsX2_ruleAt) := goodIn_app (goodIn_of _ (by decide +kernel)) ggX2_countedAt_X2_ruleAt
set_option maxRecDepth 20000 in
theorem ggX2_ruleInSlot_X2_isSlot : GoodIn wsX2_ruleInSlot wsX2_isSlot := goodIn_r _ [6, 1, 7, 8, 9, 10, 11, 12, 13, 14, 15, 16, 17, 18, 19, 20] (by rfl) (by decide +kernel)
set_option maxRecDepth 20000 in
theorem gX2_ruleInSlot_X2_isSlot : GoodIn wsX2_ruleInSlot (wsV RX2 85 RX2 yX2_isSlot wsX2_isSlot) := goodIn_app (goodIn_of _ (by decide +kernel)) ggX2_ruleInSlot_X2_isSlot
set_option maxRecDepth 20000 in
theorem ggX2_hasKnownParts_X2_isBasin : GoodIn wsX2_hasKnownParts wsX2_isBasin := goodIn_r _ [5, 6, 7, 26, 27, 28, 29, 30, 31, 32, 33, 34, 35, 36, 37, 38, 39] (by rfl) (by decide +kernel)
set_option maxRecDepth 20000 in
theorem gX2_hasKnownParts_X2_isBasin : GoodIn wsX2_hasKnownParts (wsV RX2 64 RX2 yX2_isBasin wsX2_isBasin) := goodIn_app (goodIn_of _ (by decide +kernel)) ggX2_hasKnownParts_X2_isBasin
set_option maxRecDepth 20000 in
theorem ggX2_hasKnownParts_X2_isRuleOrNone : GoodIn wsX2_hasKnownParts wsX2_isRuleOrNone := goodIn_r _ [11, 12, 13, 14, 4, 15, 16, 26, 27, 28, 29, 30, 31, 32, 33, 34, 35, 36, 37, 38, 39] (by rfl) (by decide +kernel)
set_option maxRecDepth 20000 in
theorem gX2_hasKnownParts_X2_isRuleOrNone : GoodIn wsX2_hasKnownParts (wsV RX2 88 RX2 yX2_isRuleOrNone wsX2_isRuleOrNone) := goodIn_app (goodIn_of _ (by decide +kernel)) ggX2_hasKnownParts_X2_isRuleOrNone
set_option maxRecDepth 20000 in
theorem ggX2_hasKnownParts_X2_countedAt : GoodIn wsX2_hasKnownParts wsX2_countedAt := goodIn_r _ [20, 12, 13, 14, 4, 15, 16, 40, 41, 42, 43, 44, 45, 46, 47, 26, 27, 28, 29, 30, 31, 32, 33, 34, 35, 36, 37, 38, 39] (by rfl) (by decide +kernel)
set_option maxRecDepth 20000 in
theorem gX2_hasKnownParts_X2_countedAt : GoodIn wsX2_hasKnownParts (wsV RX2 101 RX2 yX2_countedAt wsX2_countedAt) := goodIn_app (goodIn_of _ (by decide +kernel)) ggX2_hasKnownParts_X2_countedAt
set_option maxRecDepth 20000 in
theorem ggX2_hasKnownParts_X2_isSlot : GoodIn wsX2_hasKnownParts wsX2_isSlot := goodIn_r _ [24, 25, 26, 27, 28, 29, 30, 31, 32, 33, 34, 35, 36, 37, 38, 39] (by rfl) (by decide +kernel)
set_option maxRecDepth 20000 in
theorem gX2_hasKnownParts_X2_isSlot : GoodIn wsX2_hasKnownParts (wsV RX2 85 RX2 yX2_isSlot wsX2_isSlot) := goodIn_app (goodIn_of _ (by decide +kernel)) ggX2_hasKnownParts_X2_isSlot
set_option maxRecDepth 20000 in
theorem ggX2_askByCall_X2_valueOf : GoodIn wsX2_askByCall wsX2_valueOf := goodIn_r _ [7, 8, 9, 10, 11, 12, 13, 14, 15, 16, 17, 6, 18, 2, 1, 19, 20, 21, 22, 23, 3, 4, 5, 24, 25, 26, 27, 28, 29, 30, 31, 32, 33, 34, 35, 36, 37, 38, 39, 40, 41, 42, 43, 44, 45, 46, 47, 48, 49, 50, 51, 52, 53, 54, 55, 56, 57, 58, 59, 60, 61, 62, 63, 64, 65, 66, 67, 68, 69, 70, 71, 72, 73, 74, 75, 76, 77, 92, 93, 94, 95, 96, 97, 98, 99, 78, 79, 80, 81, 82, 83, 84, 85, 86, 87, 88, 89, 90, 91] (by rfl) (by decide +kernel)
set_option maxRecDepth 20000 in
theorem gX2_askByCall_X2_valueOf : GoodIn wsX2_askByCall (wsV RX2 111 RX2 yX2_valueOf wsX2_valueOf) := goodIn_app (goodIn_of _ (by decide +kernel)) ggX2_askByCall_X2_valueOf
set_option maxRecDepth 20000 in
theorem ggX2_valueOf_X2_stepTo : GoodIn wsX2_valueOf wsX2_stepTo := goodIn_r _ [12, 13, 14, 15, 16, 17, 11, 18, 19, 85, 86, 87, 88, 89, 90, 91, 92, 93, 94, 95, 96, 97, 98] (by rfl) (by decide +kernel)
set_option maxRecDepth 20000 in
theorem gX2_valueOf_X2_stepTo : GoodIn wsX2_valueOf (wsV RX2 114 RX2 yX2_stepTo wsX2_stepTo) := goodIn_app (goodIn_of _ (by decide +kernel)) ggX2_valueOf_X2_stepTo
set_option maxRecDepth 20000 in
theorem ggX2_valueOf_X2_valueOf : GoodIn wsX2_valueOf wsX2_valueOf := goodIn_r _ [0, 1, 2, 3, 4, 5, 6, 7, 8, 9, 10, 11, 12, 13, 14, 15, 16, 17, 18, 19, 20, 21, 22, 23, 24, 25, 26, 27, 28, 29, 30, 31, 32, 33, 34, 35, 36, 37, 38, 39, 40, 41, 42, 43, 44, 45, 46, 47, 48, 49, 50, 51, 52, 53, 54, 55, 56, 57, 58, 59, 60, 61, 62, 63, 64, 65, 66, 67, 68, 69, 70, 71, 72, 73, 74, 75, 76, 77, 78, 79, 80, 81, 82, 83, 84, 85, 86, 87, 88, 89, 90, 91, 92, 93, 94, 95, 96, 97, 98] (by rfl) (by decide +kernel)
set_option maxRecDepth 20000 in
theorem gX2_valueOf_X2_valueOf : GoodIn wsX2_valueOf (wsV RX2 111 RX2 yX2_valueOf wsX2_valueOf) := goodIn_app (goodIn_of _ (by decide +kernel)) ggX2_valueOf_X2_valueOf
set_option maxRecDepth 20000 in
theorem ggX2_valueOf_X2_scaled : GoodIn wsX2_valueOf wsX2_scaled := goodIn_r _ [25, 26, 27, 28, 29] (by rfl) (by decide +kernel)
set_option maxRecDepth 20000 in
theorem gX2_valueOf_X2_scaled : GoodIn wsX2_valueOf (va_wsS RX2 135 yX2_scaled wsX2_scaled) := goodIn_app (goodIn_of _ (by decide +kernel)) ggX2_valueOf_X2_scaled
set_option maxRecDepth 20000 in
theorem ggX2_valueOf_X2_banded : GoodIn wsX2_valueOf wsX2_banded := goodIn_r _ [32, 77, 78, 79, 80, 81, 82, 83, 84] (by rfl) (by decide +kernel)
set_option maxRecDepth 20000 in
theorem gX2_valueOf_X2_banded : GoodIn wsX2_valueOf (va_wsS RX2 139 yX2_banded wsX2_banded) := goodIn_app (goodIn_of _ (by decide +kernel)) ggX2_valueOf_X2_banded
set_option maxRecDepth 20000 in
theorem ggX2_valueOf_X2_ruleInSlot : GoodIn wsX2_valueOf wsX2_ruleInSlot := goodIn_r _ [36, 37, 38, 39, 40, 11, 41, 85, 86, 87, 88, 89, 90, 91, 92, 93, 94, 95, 96, 97, 98] (by rfl) (by decide +kernel)
set_option maxRecDepth 20000 in
theorem gX2_valueOf_X2_ruleInSlot : GoodIn wsX2_valueOf (wsV RX2 143 RX2 yX2_ruleInSlot wsX2_ruleInSlot) := goodIn_app (goodIn_of _ (by decide +kernel)) ggX2_valueOf_X2_ruleInSlot
set_option maxRecDepth 20000 in
theorem ggX2_valueOf_X2_valueOfLeaf : GoodIn wsX2_valueOf wsX2_valueOfLeaf := goodIn_r _ [45, 46, 47, 48, 11, 49, 50, 51, 52, 53, 54, 55, 56, 57, 58, 59, 60, 61, 62, 63, 64, 3, 65, 66, 67, 28, 68, 69, 70, 71, 72, 73, 74, 75, 76, 15, 16, 17, 18, 19, 77, 78, 79, 80, 81, 82, 83, 84, 85, 86, 87, 88, 89, 90, 91, 92, 93, 94, 95, 96, 97, 98] (by rfl) (by decide +kernel)
set_option maxRecDepth 20000 in
theorem gX2_valueOf_X2_valueOfLeaf : GoodIn wsX2_valueOf (wsV RX2 147 RX2 yX2_valueOfLeaf wsX2_valueOfLeaf) := goodIn_app (goodIn_of _ (by decide +kernel)) ggX2_valueOf_X2_valueOfLeaf
set_option maxRecDepth 20000 in
theorem ggX2_stepTo_X2_ruleAt : GoodIn wsX2_stepTo wsX2_ruleAt := goodIn_r _ [7, 8, 9, 10, 11, 12, 13, 14, 15, 16, 17, 18, 19, 20, 21, 22] (by rfl) (by decide +kernel)
set_option maxRecDepth 20000 in
theorem gX2_stepTo_X2_ruleAt : GoodIn wsX2_stepTo (wsV RX2 91 RX2 yX2_ruleAt wsX2_ruleAt) := goodIn_app (goodIn_of _ (by decide +kernel)) ggX2_stepTo_X2_ruleAt
set_option maxRecDepth 20000 in
theorem ggX2_valueOfLeaf_X2_level : GoodIn wsX2_valueOfLeaf wsX2_level := goodIn_r _ [5, 6, 7, 8, 9, 4, 10, 11, 48, 49, 50, 51, 52, 53, 54, 55, 56, 57, 58, 59, 60, 61] (by rfl) (by decide +kernel)
set_option maxRecDepth 20000 in
theorem gX2_valueOfLeaf_X2_level : GoodIn wsX2_valueOfLeaf (wsV RX2 151 RX2 yX2_level wsX2_level) := goodIn_app (goodIn_of _ (by decide +kernel)) ggX2_valueOfLeaf_X2_level
set_option maxRecDepth 20000 in
theorem ggX2_valueOfLeaf_X2_tide : GoodIn wsX2_valueOfLeaf wsX2_tide := goodIn_r _ [15, 16, 17, 18, 19, 20, 21, 22, 23, 24, 25, 26, 48, 49, 50, 51, 52, 53, 54, 55, 56, 57, 58, 59, 60, 61] (by rfl) (by decide +kernel)
set_option maxRecDepth 20000 in
theorem gX2_valueOfLeaf_X2_tide : GoodIn wsX2_valueOfLeaf (wsV RX2 154 RX2 yX2_tide wsX2_tide) := goodIn_app (goodIn_of _ (by decide +kernel)) ggX2_valueOfLeaf_X2_tide
set_option maxRecDepth 20000 in
theorem ggX2_valueOfLeaf_X2_counted : GoodIn wsX2_valueOfLeaf wsX2_counted := goodIn_r _ [30, 31, 32, 33, 4, 34, 35, 36, 37, 38, 39, 40, 41, 42, 43, 44, 45, 46, 47, 48, 49, 50, 51, 52, 53, 54, 55, 56, 57, 58, 59, 60, 61] (by rfl) (by decide +kernel)
set_option maxRecDepth 20000 in
theorem gX2_valueOfLeaf_X2_counted : GoodIn wsX2_valueOfLeaf (wsV RX2 158 RX2 yX2_counted wsX2_counted) := goodIn_app (goodIn_of _ (by decide +kernel)) ggX2_valueOfLeaf_X2_counted
set_option maxRecDepth 20000 in
theorem ggX2_tide_J9_floorMod_f86c9 : GoodIn wsX2_tide wsJ9_floorMod_f86c9 := goodIn_r _ [11] (by rfl) (by decide +kernel)
set_option maxRecDepth 20000 in
theorem gX2_tide_J9_floorMod_f86c9 : GoodIn wsX2_tide (va_wsS RX2 163 yJ9_floorMod_f86c9 wsJ9_floorMod_f86c9) := goodIn_app (goodIn_of _ (by decide +kernel)) ggX2_tide_J9_floorMod_f86c9
set_option maxRecDepth 20000 in
theorem ggX2_scaled_J9_floorDiv_f86c9 : GoodIn wsX2_scaled wsJ9_floorDiv_f86c9 := goodIn_r _ [4] (by rfl) (by decide +kernel)
set_option maxRecDepth 20000 in
theorem gX2_scaled_J9_floorDiv_f86c9 : GoodIn wsX2_scaled (va_wsS RX2 172 yJ9_floorDiv_f86c9 wsJ9_floorDiv_f86c9) := goodIn_app (goodIn_of _ (by decide +kernel)) ggX2_scaled_J9_floorDiv_f86c9
set_option maxRecDepth 20000 in
theorem ggX2_goesWhole_X2_askByCall : GoodIn wsX2_goesWhole wsX2_askByCall := goodIn_r _ [10, 11, 2, 12, 13, 14, 9, 15, 16, 17, 18, 19, 20, 21, 22, 23, 24, 25, 26, 27, 28, 29, 30, 31, 32, 33, 34, 35, 36, 37, 38, 39, 40, 41, 42, 43, 44, 45, 46, 47, 48, 49, 50, 51, 52, 53, 54, 55, 56, 57, 58, 59, 60, 61, 62, 63, 64, 65, 66, 67, 68, 69, 70, 71, 72, 73, 74, 75, 76, 77, 78, 79, 80, 81, 82, 83, 84, 85, 101, 102, 103, 104, 105, 106, 107, 108, 109, 110, 111, 112, 113, 114, 118, 119, 120, 121, 122, 123, 124, 125] (by rfl) (by decide +kernel)
set_option maxRecDepth 20000 in
theorem gX2_goesWhole_X2_askByCall : GoodIn wsX2_goesWhole (wsV RX2 75 RX2 yX2_askByCall wsX2_askByCall) := goodIn_app (goodIn_of _ (by decide +kernel)) ggX2_goesWhole_X2_askByCall
set_option maxRecDepth 20000 in
theorem ggX2_goesWhole_X2_letOver : GoodIn wsX2_goesWhole wsX2_letOver := goodIn_r _ [89, 90, 91, 92, 18, 93, 16, 17, 19, 20, 21, 22, 55, 56, 57, 9, 58, 59, 60, 61, 62, 63, 64, 94, 95, 96, 97, 98, 99, 100, 115, 116, 117, 101, 102, 103, 104, 105, 106, 107, 108, 109, 110, 111, 112, 113, 114] (by rfl) (by decide +kernel)
set_option maxRecDepth 20000 in
theorem gX2_goesWhole_X2_letOver : GoodIn wsX2_goesWhole (wsV RX2 184 RX2 yX2_letOver wsX2_letOver) := goodIn_app (goodIn_of _ (by decide +kernel)) ggX2_goesWhole_X2_letOver
set_option maxRecDepth 20000 in
theorem ggX2_letOver_X2_level : GoodIn wsX2_letOver wsX2_level := goodIn_r _ [16, 17, 18, 19, 20, 15, 21, 22, 33, 34, 35, 36, 37, 38, 39, 40, 41, 42, 43, 44, 45, 46] (by rfl) (by decide +kernel)
set_option maxRecDepth 20000 in
theorem gX2_letOver_X2_level : GoodIn wsX2_letOver (wsV RX2 151 RX2 yX2_level wsX2_level) := goodIn_app (goodIn_of _ (by decide +kernel)) ggX2_letOver_X2_level
set_option maxRecDepth 20000 in
theorem ggX2_letOver_X2_fill : GoodIn wsX2_letOver wsX2_fill := goodIn_r _ [26, 17, 18, 19, 20, 15, 21, 22, 27, 28, 29, 1, 33, 34, 35, 36, 37, 38, 39, 40, 41, 42, 43, 44, 45, 46] (by rfl) (by decide +kernel)
set_option maxRecDepth 20000 in
theorem gX2_letOver_X2_fill : GoodIn wsX2_letOver (wsV RX2 197 RX2 yX2_fill wsX2_fill) := goodIn_app (goodIn_of _ (by decide +kernel)) ggX2_letOver_X2_fill
