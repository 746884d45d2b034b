set_option maxRecDepth 20000 in
theorem ggX3_isBasin_X3_in : GoodIn wsX3_isBasin wsX3_in := goodIn_r _ [5] (by rfl) (by decide +kernel)
set_option maxRecDepth 20000 in
theorem gX3_isBasin_X3_in : GoodIn wsX3_isBasin (va_wsS RX3 60 yX3_in wsX3_in) := goodIn_app (goodIn_of _ (by decide +kernel)) ggX3_isBasin_X3_in
set_option maxRecDepth 20000 in
theorem ggX3_isRule_X3_in : GoodIn wsX3_isRule wsX3_in := goodIn_r _ [5] (by rfl) (by decide +kernel)
set_option maxRecDepth 20000 in
theorem gX3_isRule_X3_in : GoodIn wsX3_isRule (va_wsS RX3 60 yX3_in wsX3_in) := goodIn_app (goodIn_of _ (by decide +kernel)) ggX3_isRule_X3_in
set_option maxRecDepth 20000 in
theorem ggX3_isPart_X3_isRule : GoodIn wsX3_isPart wsX3_isRule := goodIn_r _ [5, 6, 7, 8, 4, 9, 10, 11, 12, 13, 14, 15, 16, 17, 18, 19, 20, 21, 22, 23, 24, 25, 26, 27, 28, 29, 30, 31, 32, 33, 34] (by rfl) (by decide +kernel)
set_option maxRecDepth 20000 in
theorem gX3_isPart_X3_isRule : GoodIn wsX3_isPart (wsV RX3 67 RX3 yX3_isRule wsX3_isRule) := goodIn_app (goodIn_of _ (by decide +kernel)) ggX3_isPart_X3_isRule
set_option maxRecDepth 20000 in
theorem ggX3_isSlot_X3_in : GoodIn wsX3_isSlot wsX3_in := goodIn_r _ [4] (by rfl) (by decide +kernel)
set_option maxRecDepth 20000 in
theorem gX3_isSlot_X3_in : GoodIn wsX3_isSlot (va_wsS RX3 60 yX3_in wsX3_in) := goodIn_app (goodIn_of _ (by decide +kernel)) ggX3_isSlot_X3_in
set_option maxRecDepth 20000 in
theorem ggX3_basin_X3_in : GoodIn wsX3_basin wsX3_in := goodIn_r _ [7] (by rfl) (by decide +kernel)
set_option maxRecDepth 20000 in
theorem gX3_basin_X3_in : GoodIn wsX3_basin (va_wsS RX3 60 yX3_in wsX3_in) := goodIn_app (goodIn_of _ (by decide +kernel)) ggX3_basin_X3_in
set_option maxRecDepth 20000 in
theorem ggX3_fill_X3_isBasin : GoodIn wsX3_fill wsX3_isBasin := goodIn_r _ [7, 8, 9, 10, 6, 11, 12, 13, 14, 15, 16, 17, 18, 19, 20, 21, 22, 23, 24, 25, 26, 27, 28, 29, 30, 31, 32, 33, 34, 35, 36] (by rfl) (by decide +kernel)
set_option maxRecDepth 20000 in
theorem gX3_fill_X3_isBasin : GoodIn wsX3_fill (wsV RX3 72 RX3 yX3_isBasin wsX3_isBasin) := goodIn_app (goodIn_of _ (by decide +kernel)) ggX3_fill_X3_isBasin
set_option maxRecDepth 20000 in
theorem ggX3_fill_X3_in : GoodIn wsX3_fill wsX3_in := goodIn_r _ [11] (by rfl) (by decide +kernel)
set_option maxRecDepth 20000 in
theorem gX3_fill_X3_in : GoodIn wsX3_fill (va_wsS RX3 60 yX3_in wsX3_in) := goodIn_app (goodIn_of _ (by decide +kernel)) ggX3_fill_X3_in
set_option maxRecDepth 20000 in
theorem ggX3_moon_X3_in : GoodIn wsX3_moon wsX3_in := goodIn_r _ [5] (by rfl) (by decide +kernel)
set_option maxRecDepth 20000 in
theorem gX3_moon_X3_in : GoodIn wsX3_moon (va_wsS RX3 60 yX3_in wsX3_in) := goodIn_app (goodIn_of _ (by decide +kernel)) ggX3_moon_X3_in
set_option maxRecDepth 20000 in
theorem ggX3_areKnown_X3_isBasin : GoodIn wsX3_areKnown wsX3_isBasin := goodIn_r _ [6, 7, 8, 9, 5, 10, 23, 24, 25, 26, 27, 28, 29, 30, 31, 32, 33, 34, 35, 36, 37, 38, 39, 40, 41, 42, 43, 44, 45, 46, 47] (by rfl) (by decide +kernel)
set_option maxRecDepth 20000 in
theorem gX3_areKnown_X3_isBasin : GoodIn wsX3_areKnown (wsV RX3 72 RX3 yX3_isBasin wsX3_isBasin) := goodIn_app (goodIn_of _ (by decide +kernel)) ggX3_areKnown_X3_isBasin
set_option maxRecDepth 20000 in
theorem ggX3_areKnown_X3_isPart : GoodIn wsX3_areKnown wsX3_isPart := goodIn_r _ [14, 15, 16, 17, 5, 18, 19, 8, 9, 10, 23, 24, 25, 26, 27, 28, 29, 30, 31, 32, 33, 34, 35, 36, 37, 38, 39, 40, 41, 42, 43, 44, 45, 46, 47] (by rfl) (by decide +kernel)
set_option maxRecDepth 20000 in
theorem gX3_areKnown_X3_isPart : GoodIn wsX3_areKnown (wsV RX3 75 RX3 yX3_isPart wsX3_isPart) := goodIn_app (goodIn_of _ (by decide +kernel)) ggX3_areKnown_X3_isPart
set_option maxRecDepth 20000 in
theorem ggX3_areKnown_X3_isRule : GoodIn wsX3_areKnown wsX3_isRule := goodIn_r _ [18, 19, 8, 9, 5, 10, 23, 24, 25, 26, 27, 28, 29, 30, 31, 32, 33, 34, 35, 36, 37, 38, 39, 40, 41, 42, 43, 44, 45, 46, 47] (by rfl) (by decide +kernel)
set_option maxRecDepth 20000 in
theorem gX3_areKnown_X3_isRule : GoodIn wsX3_areKnown (wsV RX3 67 RX3 yX3_isRule wsX3_isRule) := goodIn_app (goodIn_of _ (by decide +kernel)) ggX3_areKnown_X3_isRule
set_option maxRecDepth 20000 in
theorem ggX3_areKnown_X3_isSlot : GoodIn wsX3_areKnown wsX3_isSlot := goodIn_r _ [22, 8, 9, 5, 10] (by rfl) (by decide +kernel)
set_option maxRecDepth 20000 in
theorem gX3_areKnown_X3_isSlot : GoodIn wsX3_areKnown (va_wsS RX3 78 yX3_isSlot wsX3_isSlot) := goodIn_app (goodIn_of _ (by decide +kernel)) ggX3_areKnown_X3_isSlot
set_option maxRecDepth 20000 in
theorem ggX3_areKnown_X3_in : GoodIn wsX3_areKnown wsX3_in := goodIn_r _ [10] (by rfl) (by decide +kernel)
set_option maxRecDepth 20000 in
theorem gX3_areKnown_X3_in : GoodIn wsX3_areKnown (va_wsS RX3 60 yX3_in wsX3_in) := goodIn_app (goodIn_of _ (by decide +kernel)) ggX3_areKnown_X3_in
set_option maxRecDepth 20000 in
theorem ggX3_make_X3_areKnown : GoodIn wsX3_make wsX3_areKnown := goodIn_r _ [12, 3, 13, 14, 15, 11, 16, 17, 18, 19, 20, 21, 22, 23, 24, 25, 26, 27, 28, 1, 29, 30, 31, 89, 90, 91, 92, 93, 94, 95, 96, 97, 98, 99, 100, 101, 102, 103, 104, 105, 106, 107, 108, 109, 110, 111, 112, 113] (by rfl) (by decide +kernel)
set_option maxRecDepth 20000 in
theorem gX3_make_X3_areKnown : GoodIn wsX3_make (wsV RX3 81 RX3 yX3_areKnown wsX3_areKnown) := goodIn_app (goodIn_of _ (by decide +kernel)) ggX3_make_X3_areKnown
set_option maxRecDepth 20000 in
theorem ggX3_make_X3_in : GoodIn wsX3_make wsX3_in := goodIn_r _ [20] (by rfl) (by decide +kernel)
set_option maxRecDepth 20000 in
theorem gX3_make_X3_in : GoodIn wsX3_make (va_wsS RX3 60 yX3_in wsX3_in) := goodIn_app (goodIn_of _ (by decide +kernel)) ggX3_make_X3_in
set_option maxRecDepth 20000 in
theorem ggX3_make_X3_asks : GoodIn wsX3_make wsX3_asks := goodIn_r _ [35, 36, 2, 37, 38, 39, 40, 11, 41, 42, 43, 44, 45, 46, 47, 48, 49, 3, 7, 50, 4, 51, 52, 53, 54, 55, 5, 56, 57, 58, 59, 6, 60, 61, 62, 63, 64, 65, 66, 67, 68, 69, 70, 71, 72, 73, 74, 75, 76, 77, 78, 79, 80, 81, 82, 83, 84, 85, 86, 87, 88, 89, 90, 91, 92, 93, 94, 95, 96, 97, 98, 99, 100, 101, 102, 103, 104, 105, 106, 107, 108, 109, 110, 111, 112, 113] (by rfl) (by decide +kernel)
set_option maxRecDepth 20000 in
theorem gX3_make_X3_asks : GoodIn wsX3_make (wsV RX3 85 RX3 yX3_asks wsX3_asks) := goodIn_app (goodIn_of _ (by decide +kernel)) ggX3_make_X3_asks
set_option maxRecDepth 20000 in
theorem ggX3_put_X3_isSlot : GoodIn wsX3_put wsX3_isSlot := goodIn_r _ [5, 6, 7, 4, 8] (by rfl) (by decide +kernel)
set_option maxRecDepth 20000 in
theorem gX3_put_X3_isSlot : GoodIn wsX3_put (va_wsS RX3 78 yX3_isSlot wsX3_isSlot) := goodIn_app (goodIn_of _ (by decide +kernel)) ggX3_put_X3_isSlot
set_option maxRecDepth 20000 in
theorem ggX3_put_X3_isPart : GoodIn wsX3_put wsX3_isPart := goodIn_r _ [12, 13, 14, 15, 4, 16, 17, 6, 7, 8, 18, 19, 20, 21, 22, 23, 24, 25, 26, 27, 28, 29, 30, 31, 32, 33, 34, 35, 36, 37, 38, 39, 40, 41, 42] (by rfl) (by decide +kernel)
set_option maxRecDepth 20000 in
theorem gX3_put_X3_isPart : GoodIn wsX3_put (wsV RX3 75 RX3 yX3_isPart wsX3_isPart) := goodIn_app (goodIn_of _ (by decide +kernel)) ggX3_put_X3_isPart
set_option maxRecDepth 20000 in
theorem ggX3_plain_X3_gives : GoodIn wsX3_plain wsX3_gives := goodIn_r _ [10, 11, 12, 20, 21, 22, 23, 24, 25, 26, 27, 28, 29, 30, 31, 32, 33, 34, 35, 36, 37, 38, 39, 40, 41, 42, 43, 44] (by rfl) (by decide +kernel)
set_option maxRecDepth 20000 in
theorem gX3_plain_X3_gives : GoodIn wsX3_plain (wsV RX3 106 RX3 yX3_gives wsX3_gives) := goodIn_app (goodIn_of _ (by decide +kernel)) ggX3_plain_X3_gives
set_option maxRecDepth 20000 in
theorem ggX3_plain_X3_tide : GoodIn wsX3_plain wsX3_tide := goodIn_r _ [16, 17, 18, 19, 20, 21, 22, 23, 24, 25, 26, 27, 28, 29, 30, 31, 32, 33, 34, 35, 36, 37, 38, 39, 40, 41, 42, 43, 44] (by rfl) (by decide +kernel)
set_option maxRecDepth 20000 in
theorem gX3_plain_X3_tide : GoodIn wsX3_plain (wsV RX3 110 RX3 yX3_tide wsX3_tide) := goodIn_app (goodIn_of _ (by decide +kernel)) ggX3_plain_X3_tide
set_option maxRecDepth 20000 in
theorem ggX3_behind_X3_downward : GoodIn wsX3_behind wsX3_downward := goodIn_r _ [7] (by rfl) (by decide +kernel)
set_option maxRecDepth 20000 in
theorem gX3_behind_X3_downward : GoodIn wsX3_behind (va_wsS RX3 114 yX3_downward wsX3_downward) := goodIn_app (goodIn_of _ (by decide +kernel)) ggX3_behind_X3_downward
set_option maxRecDepth 20000 in
theorem ggX3_behind_X3_gives : GoodIn wsX3_behind wsX3_gives := goodIn_r _ [11, 3, 12, 13, 14, 15, 16, 17, 18, 19, 20, 21, 22, 23, 24, 25, 26, 27, 28, 29, 30, 31, 32, 33, 34, 35, 36, 37] (by rfl) (by decide +kernel)
set_option maxRecDepth 20000 in
theorem gX3_behind_X3_gives : GoodIn wsX3_behind (wsV RX3 106 RX3 yX3_gives wsX3_gives) := goodIn_app (goodIn_of _ (by decide +kernel)) ggX3_behind_X3_gives
set_option maxRecDepth 20000 in
theorem ggX3_pair_X3_enter : GoodIn wsX3_pair wsX3_enter := goodIn_r _ [10, 11, 12, 2, 13, 14, 15, 1, 23, 24, 25, 26, 27, 28, 29, 30, 31, 32, 33, 34, 35, 36, 37, 38, 39, 40, 41, 42, 43, 44, 45, 46, 47] (by rfl) (by decide +kernel)
set_option maxRecDepth 20000 in
theorem gX3_pair_X3_enter : GoodIn wsX3_pair (wsV RX3 118 RX3 yX3_enter wsX3_enter) := goodIn_app (goodIn_of _ (by decide +kernel)) ggX3_pair_X3_enter
set_option maxRecDepth 20000 in
theorem ggX3_pair_X3_joined : GoodIn wsX3_pair wsX3_joined := goodIn_r _ [18] (by rfl) (by decide +kernel)
set_option maxRecDepth 20000 in
theorem gX3_pair_X3_joined : GoodIn wsX3_pair (va_wsS RX3 122 yX3_joined wsX3_joined) := goodIn_app (goodIn_of _ (by decide +kernel)) ggX3_pair_X3_joined
set_option maxRecDepth 20000 in
theorem ggX3_pair_X3_gives : GoodIn wsX3_pair wsX3_gives := goodIn_r _ [22, 3, 2, 23, 24, 25, 26, 27, 28, 29, 30, 31, 32, 33, 34, 35, 36, 37, 38, 39, 40, 41, 42, 43, 44, 45, 46, 47] (by rfl) (by decide +kernel)
set_option maxRecDepth 20000 in
theorem gX3_pair_X3_gives : GoodIn wsX3_pair (wsV RX3 106 RX3 yX3_gives wsX3_gives) := goodIn_app (goodIn_of _ (by decide +kernel)) ggX3_pair_X3_gives
set_option maxRecDepth 20000 in
theorem ggX3_choice_X3_enter : GoodIn wsX3_choice wsX3_enter := goodIn_r _ [7, 8, 9, 10, 11, 12, 13, 14, 19, 20, 21, 22, 23, 24, 25, 26, 27, 28, 29, 30, 31, 32, 33, 34, 35, 36, 37, 38, 39, 40, 41, 42, 43] (by rfl) (by decide +kernel)
set_option maxRecDepth 20000 in
theorem gX3_choice_X3_enter : GoodIn wsX3_choice (wsV RX3 118 RX3 yX3_enter wsX3_enter) := goodIn_app (goodIn_of _ (by decide +kernel)) ggX3_choice_X3_enter
set_option maxRecDepth 20000 in
theorem ggX3_choice_X3_gives : GoodIn wsX3_choice wsX3_gives := goodIn_r _ [18, 1, 10, 19, 20, 21, 22, 23, 24, 25, 26, 27, 28, 29, 30, 31, 32, 33, 34, 35, 36, 37, 38, 39, 40, 41, 42, 43] (by rfl) (by decide +kernel)
set_option maxRecDepth 20000 in
theorem gX3_choice_X3_gives : GoodIn wsX3_choice (wsV RX3 106 RX3 yX3_gives wsX3_gives) := goodIn_app (goodIn_of _ (by decide +kernel)) ggX3_choice_X3_gives
set_option maxRecDepth 20000 in
theorem ggX3_slots_X3_gives : GoodIn wsX3_slots wsX3_gives := goodIn_r _ [10, 3, 2, 20, 21, 22, 23, 24, 25, 26, 27, 28, 29, 30, 31, 32, 33, 34, 35, 36, 37, 38, 39, 40, 41, 42, 43, 44] (by rfl) (by decide +kernel)
set_option maxRecDepth 20000 in
theorem gX3_slots_X3_gives : GoodIn wsX3_slots (wsV RX3 106 RX3 yX3_gives wsX3_gives) := goodIn_app (goodIn_of _ (by decide +kernel)) ggX3_slots_X3_gives
set_option maxRecDepth 20000 in
theorem ggX3_slots_X3_enter : GoodIn wsX3_slots wsX3_enter := goodIn_r _ [14, 15, 16, 2, 17, 18, 19, 1, 20, 21, 22, 23, 24, 25, 26, 27, 28, 29, 30, 31, 32, 33, 34, 35, 36, 37, 38, 39, 40, 41, 42, 43, 44] (by rfl) (by decide +kernel)
set_option maxRecDepth 20000 in
theorem gX3_slots_X3_enter : GoodIn wsX3_slots (wsV RX3 118 RX3 yX3_enter wsX3_enter) := goodIn_app (goodIn_of _ (by decide +kernel)) ggX3_slots_X3_enter
set_option maxRecDepth 20000 in
theorem ggX3_go_X3_plain : GoodIn wsX3_go wsX3_plain := goodIn_r _ [13, 8, 5, 14, 15, 6, 16, 17, 18, 12, 19, 20, 2, 21, 22, 23, 24, 25, 26, 27, 57, 58, 59, 60, 61, 62, 63, 64, 65, 66, 67, 68, 69, 70, 71, 72, 73, 74, 75, 76, 77, 78, 79, 80, 81] (by rfl) (by decide +kernel)
set_option maxRecDepth 20000 in
theorem gX3_go_X3_plain : GoodIn wsX3_go (wsV RX3 126 RX3 yX3_plain wsX3_plain) := goodIn_app (goodIn_of _ (by decide +kernel)) ggX3_go_X3_plain
set_option maxRecDepth 20000 in
theorem ggX3_go_X3_slots : GoodIn wsX3_go wsX3_slots := goodIn_r _ [31, 32, 2, 20, 8, 7, 16, 17, 18, 12, 19, 33, 34, 35, 36, 37, 38, 1, 3, 4, 57, 58, 59, 60, 61, 62, 63, 64, 65, 66, 67, 68, 69, 70, 71, 72, 73, 74, 75, 76, 77, 78, 79, 80, 81] (by rfl) (by decide +kernel)
set_option maxRecDepth 20000 in
theorem gX3_go_X3_slots : GoodIn wsX3_go (wsV RX3 129 RX3 yX3_slots wsX3_slots) := goodIn_app (goodIn_of _ (by decide +kernel)) ggX3_go_X3_slots
set_option maxRecDepth 20000 in
theorem ggX3_go_X3_enter : GoodIn wsX3_go wsX3_enter := goodIn_r _ [36, 37, 38, 2, 1, 3, 4, 32, 57, 58, 59, 60, 61, 62, 63, 64, 65, 66, 67, 68, 69, 70, 71, 72, 73, 74, 75, 76, 77, 78, 79, 80, 81] (by rfl) (by decide +kernel)
set_option maxRecDepth 20000 in
theorem gX3_go_X3_enter : GoodIn wsX3_go (wsV RX3 118 RX3 yX3_enter wsX3_enter) := goodIn_app (goodIn_of _ (by decide +kernel)) ggX3_go_X3_enter
set_option maxRecDepth 20000 in
theorem ggX3_go_X3_pair : GoodIn wsX3_go wsX3_pair := goodIn_r _ [42, 32, 2, 20, 8, 5, 33, 34, 35, 12, 36, 37, 38, 1, 3, 4, 43, 44, 45, 16, 17, 18, 19, 57, 58, 59, 60, 61, 62, 63, 64, 65, 66, 67, 68, 69, 70, 71, 72, 73, 74, 75, 76, 77, 78, 79, 80, 81] (by rfl) (by decide +kernel)
set_option maxRecDepth 20000 in
theorem gX3_go_X3_pair : GoodIn wsX3_go (wsV RX3 133 RX3 yX3_pair wsX3_pair) := goodIn_app (goodIn_of _ (by decide +kernel)) ggX3_go_X3_pair
set_option maxRecDepth 20000 in
theorem ggX3_go_X3_choice : GoodIn wsX3_go wsX3_choice := goodIn_r _ [49, 20, 8, 33, 34, 35, 12, 36, 37, 38, 2, 1, 3, 4, 32, 16, 17, 18, 19, 57, 58, 59, 60, 61, 62, 63, 64, 65, 66, 67, 68, 69, 70, 71, 72, 73, 74, 75, 76, 77, 78, 79, 80, 81] (by rfl) (by decide +kernel)
set_option maxRecDepth 20000 in
theorem gX3_go_X3_choice : GoodIn wsX3_go (wsV RX3 136 RX3 yX3_choice wsX3_choice) := goodIn_app (goodIn_of _ (by decide +kernel)) ggX3_go_X3_choice
set_option maxRecDepth 20000 in
theorem ggX3_go_X3_behind : GoodIn wsX3_go wsX3_behind := goodIn_r _ [53, 8, 5, 20, 54, 55, 12, 56, 16, 17, 18, 19, 2, 57, 58, 59, 60, 61, 62, 63, 64, 65, 66, 67, 68, 69, 70, 71, 72, 73, 74, 75, 76, 77, 78, 79, 80, 81] (by rfl) (by decide +kernel)
set_option maxRecDepth 20000 in
theorem gX3_go_X3_behind : GoodIn wsX3_go (wsV RX3 139 RX3 yX3_behind wsX3_behind) := goodIn_app (goodIn_of _ (by decide +kernel)) ggX3_go_X3_behind
set_option maxRecDepth 20000 in
theorem ggX3_asks_X3_enter : GoodIn wsX3_asks wsX3_enter := goodIn_r _ [8, 2, 1, 3, 9, 10, 11, 12, 61, 62, 63, 64, 65, 66, 67, 68, 69, 70, 71, 72, 73, 74, 75, 76, 77, 78, 79, 80, 81, 82, 83, 84, 85] (by rfl) (by decide +kernel)
set_option maxRecDepth 20000 in
theorem gX3_asks_X3_enter : GoodIn wsX3_asks (wsV RX3 118 RX3 yX3_enter wsX3_enter) := goodIn_app (goodIn_of _ (by decide +kernel)) ggX3_asks_X3_enter
set_option maxRecDepth 20000 in
theorem ggX3_asks_X3_go : GoodIn wsX3_asks wsX3_go := goodIn_r _ [16, 9, 3, 10, 11, 17, 18, 19, 20, 21, 22, 23, 7, 24, 25, 26, 27, 28, 29, 30, 31, 32, 33, 34, 35, 36, 37, 38, 39, 40, 41, 42, 12, 4, 5, 6, 8, 2, 1, 43, 44, 45, 46, 47, 48, 49, 50, 51, 52, 53, 54, 55, 56, 57, 58, 59, 60, 61, 62, 63, 64, 65, 66, 67, 68, 69, 70, 71, 72, 73, 74, 75, 76, 77, 78, 79, 80, 81, 82, 83, 84, 85] (by rfl) (by decide +kernel)
set_option maxRecDepth 20000 in
theorem gX3_asks_X3_go : GoodIn wsX3_asks (wsV RX3 143 RX3 yX3_go wsX3_go) := goodIn_app (goodIn_of _ (by decide +kernel)) ggX3_asks_X3_go
set_option maxRecDepth 20000 in
theorem ggX3_ask_X3_isRule : GoodIn wsX3_ask wsX3_isRule := goodIn_r _ [8, 9, 10, 11, 7, 12, 74, 75, 76, 77, 78, 79, 80, 81, 82, 83, 84, 85, 86, 87, 88, 89, 90, 91, 92, 93, 94, 95, 96, 97, 98] (by rfl) (by decide +kernel)
set_option maxRecDepth 20000 in
theorem gX3_ask_X3_isRule : GoodIn wsX3_ask (wsV RX3 67 RX3 yX3_isRule wsX3_isRule) := goodIn_app (goodIn_of _ (by decide +kernel)) ggX3_ask_X3_isRule
set_option maxRecDepth 20000 in
theorem ggX3_ask_X3_asks : GoodIn wsX3_ask wsX3_asks := goodIn_r _ [16, 17, 1, 18, 19, 20, 21, 7, 22, 23, 24, 25, 26, 27, 28, 29, 30, 31, 32, 33, 34, 35, 36, 37, 38, 39, 40, 41, 42, 43, 44, 2, 45, 46, 47, 48, 49, 50, 51, 52, 53, 54, 55, 56, 57, 58, 59, 60, 61, 62, 63, 64, 65, 66, 67, 68, 69, 70, 71, 72, 73, 74, 75, 76, 77, 78, 79, 80, 81, 82, 83, 84, 85, 86, 87, 88, 89, 90, 91, 92, 93, 94, 95, 96, 97, 98] (by rfl) (by decide +kernel)
set_option maxRecDepth 20000 in
theorem gX3_ask_X3_asks : GoodIn wsX3_ask (wsV RX3 85 RX3 yX3_asks wsX3_asks) := goodIn_app (goodIn_of _ (by decide +kernel)) ggX3_ask_X3_asks
set_option maxRecDepth 20000 in
theorem ggX3_sluice_X3_isBasin : GoodIn wsX3_sluice wsX3_isBasin := goodIn_r _ [9, 10, 11, 12, 8, 13, 19, 20, 21, 22, 23, 24, 25, 26, 27, 28, 29, 30, 31, 32, 33, 34, 35, 36, 37, 38, 39, 40, 41, 42, 43] (by rfl) (by decide +kernel)
set_option maxRecDepth 20000 in
theorem gX3_sluice_X3_isBasin : GoodIn wsX3_sluice (wsV RX3 72 RX3 yX3_isBasin wsX3_isBasin) := goodIn_app (goodIn_of _ (by decide +kernel)) ggX3_sluice_X3_isBasin
set_option maxRecDepth 20000 in
theorem ggX3_sluice_X3_isRule : GoodIn wsX3_sluice wsX3_isRule := goodIn_r _ [17, 18, 11, 12, 8, 13, 19, 20, 21, 22, 23, 24, 25, 26, 27, 28, 29, 30, 31, 32, 33, 34, 35, 36, 37, 38, 39, 40, 41, 42, 43] (by rfl) (by decide +kernel)
set_option maxRecDepth 20000 in
theorem gX3_sluice_X3_isRule : GoodIn wsX3_sluice (wsV RX3 67 RX3 yX3_isRule wsX3_isRule) := goodIn_app (goodIn_of _ (by decide +kernel)) ggX3_sluice_X3_isRule
set_option maxRecDepth 20000 in
theorem ggX3_flows_X3_asks : GoodIn wsX3_flows wsX3_asks := goodIn_r _ [15, 16, 3, 17, 18, 19, 20, 14, 21, 22, 23, 24, 25, 26, 27, 28, 29, 30, 31, 32, 33, 34, 35, 36, 37, 6, 38, 39, 40, 41, 42, 9, 43, 44, 45, 46, 47, 48, 49, 50, 51, 52, 53, 54, 55, 56, 57, 58, 59, 60, 61, 62, 63, 64, 65, 66, 67, 68, 69, 70, 71, 72, 73, 74, 75, 76, 77, 78, 79, 80, 81, 82, 83, 84, 85, 86, 87, 88, 89, 90, 91, 92, 93, 94, 95, 96] (by rfl) (by decide +kernel)
set_option maxRecDepth 20000 in
theorem gX3_flows_X3_asks : GoodIn wsX3_flows (wsV RX3 85 RX3 yX3_asks wsX3_asks) := goodIn_app (goodIn_of _ (by decide +kernel)) ggX3_flows_X3_asks
set_option maxRecDepth 20000 in
theorem ggX3_run_X3_in : GoodIn wsX3_run wsX3_in := goodIn_r _ [8] (by rfl) (by decide +kernel)
set_option maxRecDepth 20000 in
theorem gX3_run_X3_in : GoodIn wsX3_run (va_wsS RX3 60 yX3_in wsX3_in) := goodIn_app (goodIn_of _ (by decide +kernel)) ggX3_run_X3_in
set_option maxRecDepth 20000 in
theorem ggX3_run_X3_flows : GoodIn wsX3_run wsX3_flows := goodIn_r _ [12, 13, 1, 14, 2, 15, 16, 17, 18, 19, 3, 20, 21, 22, 7, 23, 24, 25, 26, 27, 28, 29, 30, 31, 32, 33, 34, 35, 36, 37, 38, 39, 40, 41, 42, 43, 44, 45, 46, 47, 48, 49, 50, 51, 52, 53, 54, 55, 56, 57, 58, 59, 60, 61, 62, 63, 64, 65, 66, 67, 68, 69, 70, 71, 72, 73, 74, 75, 76, 77, 78, 79, 80, 81, 82, 83, 84, 85, 86, 87, 88, 89, 90, 91, 92, 93, 94, 95, 96, 97, 98, 99, 100, 101, 102, 103, 104] (by rfl) (by decide +kernel)
set_option maxRecDepth 20000 in
theorem gX3_run_X3_flows : GoodIn wsX3_run (wsV RX3 158 RX3 yX3_flows wsX3_flows) := goodIn_app (goodIn_of _ (by decide +kernel)) ggX3_run_X3_flows
set_option maxRecDepth 20000 in
theorem ggX3_level_X3_isBasin : GoodIn wsX3_level wsX3_isBasin := goodIn_r _ [6, 7, 8, 9, 5, 10, 11, 12, 13, 14, 15, 16, 17, 18, 19, 20, 21, 22, 23, 24, 25, 26, 27, 28, 29, 30, 31, 32, 33, 34, 35] (by rfl) (by decide +kernel)
set_option maxRecDepth 20000 in
theorem gX3_level_X3_isBasin : GoodIn wsX3_level (wsV RX3 72 RX3 yX3_isBasin wsX3_isBasin) := goodIn_app (goodIn_of _ (by decide +kernel)) ggX3_level_X3_isBasin
set_option maxRecDepth 20000 in
theorem ggX3_counted_X3_isRule : GoodIn wsX3_counted wsX3_isRule := goodIn_r _ [7, 8, 9, 10, 6, 11, 12, 13, 14, 15, 16, 17, 18, 19, 20, 21, 22, 23, 24, 25, 26, 27, 28, 29, 30, 31, 32, 33, 34, 35, 36] (by rfl) (by decide +kernel)
set_option maxRecDepth 20000 in
theorem gX3_counted_X3_isRule : GoodIn wsX3_counted (wsV RX3 67 RX3 yX3_isRule wsX3_isRule) := goodIn_app (goodIn_of _ (by decide +kernel)) ggX3_counted_X3_isRule
set_option maxRecDepth 20000 in
theorem ggX3_count_X3_in : GoodIn wsX3_count wsX3_in := goodIn_r _ [9] (by rfl) (by decide +kernel)
set_option maxRecDepth 20000 in
theorem gX3_count_X3_in : GoodIn wsX3_count (va_wsS RX3 60 yX3_in wsX3_in) := goodIn_app (goodIn_of _ (by decide +kernel)) ggX3_count_X3_in
