set_option maxRecDepth 20000 in
theorem ggX1_make_X2_sources : GoodIn wsX1_make wsX2_sources := goodIn_r _ [10, 11, 12, 104, 105, 106, 107, 108, 109, 110, 111, 112, 113] rfl (by decide +kernel)
set_option maxRecDepth 20000 in
theorem gX1_make_X2_sources : GoodIn wsX1_make (wsV RX1 36 RX2 yX2_sources wsX2_sources) := goodIn_app (goodIn_of _ (by decide +kernel)) ggX1_make_X2_sources
set_option maxRecDepth 20000 in
theorem ggX1_make_X1_weigh : GoodIn wsX1_make wsX1_weigh := goodIn_r _ [17, 2, 18, 19, 20, 21, 22, 23, 5, 24, 25, 26, 9, 27, 28, 29, 30, 7, 8, 10, 11, 12, 31, 32, 33, 34, 35, 36, 37, 38, 39, 40, 41, 42, 43, 44, 45, 46, 47, 48, 49, 50, 93, 94, 95, 96, 97, 98, 99, 100, 101, 102, 103, 104, 105, 106, 107, 108, 109, 110, 111, 112, 113] rfl (by decide +kernel)
set_option maxRecDepth 20000 in
theorem gX1_make_X1_weigh : GoodIn wsX1_make (wsV RX1 52 RX1 yX1_weigh wsX1_weigh) := goodIn_app (goodIn_of _ (by decide +kernel)) ggX1_make_X1_weigh
set_option maxRecDepth 20000 in
theorem ggX1_make_X1_choose : GoodIn wsX1_make wsX1_choose := goodIn_r _ [54, 55, 56, 2, 57, 58, 59, 60, 61, 16, 62, 3, 23, 63, 64, 65, 66, 67, 68, 69, 70, 71, 5, 4, 6, 7, 8, 9, 10, 11, 12, 72, 73, 74, 75, 76, 77, 78, 79, 80, 81, 82, 83, 84, 85, 86, 87, 28, 48, 49, 30, 88, 32, 33, 34, 35, 36, 37, 38, 39, 40, 41, 42, 43, 89, 90, 91, 92, 50, 93, 94, 95, 96, 97, 98, 99, 100, 101, 102, 103, 104, 105, 106, 107, 108, 109, 110, 111, 112, 113] rfl (by decide +kernel)
set_option maxRecDepth 20000 in
theorem gX1_make_X1_choose : GoodIn wsX1_make (wsV RX1 56 RX1 yX1_choose wsX1_choose) := goodIn_app (goodIn_of _ (by decide +kernel)) ggX1_make_X1_choose
set_option maxRecDepth 20000 in
theorem ggX1_patternCount_J13_bitCount_95d88 : GoodIn wsX1_patternCount wsJ13_bitCount_95d88 := goodIn_r _ [6, 7, 8, 9] rfl (by decide +kernel)
set_option maxRecDepth 20000 in
theorem gX1_patternCount_J13_bitCount_95d88 : GoodIn wsX1_patternCount (va_wsS RX1 59 yJ13_bitCount_95d88 wsJ13_bitCount_95d88) := goodIn_app (goodIn_of _ (by decide +kernel)) ggX1_patternCount_J13_bitCount_95d88
set_option maxRecDepth 20000 in
theorem ggX1_onesOfCube_X1_isTestable : GoodIn wsX1_onesOfCube wsX1_isTestable := goodIn_r _ [5, 6, 7, 30, 31, 32, 33, 34, 35, 36, 37, 38, 39, 40] rfl (by decide +kernel)
set_option maxRecDepth 20000 in
theorem gX1_onesOfCube_X1_isTestable : GoodIn wsX1_onesOfCube (wsV RX1 65 RX1 yX1_isTestable wsX1_isTestable) := goodIn_app (goodIn_of _ (by decide +kernel)) ggX1_onesOfCube_X1_isTestable
set_option maxRecDepth 20000 in
theorem ggX1_onesOfCube_X1_leastPattern : GoodIn wsX1_onesOfCube wsX1_leastPattern := goodIn_r _ [11, 6, 7, 30, 31, 32, 33, 34, 35, 36, 37, 38, 39, 40] rfl (by decide +kernel)
set_option maxRecDepth 20000 in
theorem gX1_onesOfCube_X1_leastPattern : GoodIn wsX1_onesOfCube (wsV RX1 69 RX1 yX1_leastPattern wsX1_leastPattern) := goodIn_app (goodIn_of _ (by decide +kernel)) ggX1_onesOfCube_X1_leastPattern
set_option maxRecDepth 20000 in
theorem ggX1_onesOfCube_X1_freeSources : GoodIn wsX1_onesOfCube wsX1_freeSources := goodIn_r _ [15, 16, 8, 9, 10, 4, 11, 6, 7, 17, 18, 19, 20, 21, 22, 23, 24, 25, 26, 27, 28, 29, 30, 31, 32, 33, 34, 35, 36, 37, 38, 39, 40, 41, 42, 43, 44, 45, 46, 47, 48, 49, 50] rfl (by decide +kernel)
set_option maxRecDepth 20000 in
theorem gX1_onesOfCube_X1_freeSources : GoodIn wsX1_onesOfCube (wsV RX1 73 RX1 yX1_freeSources wsX1_freeSources) := goodIn_app (goodIn_of _ (by decide +kernel)) ggX1_onesOfCube_X1_freeSources
set_option maxRecDepth 20000 in
theorem ggX1_freeOfCube_X1_isTestable : GoodIn wsX1_freeOfCube wsX1_isTestable := goodIn_r _ [5, 6, 7, 30, 31, 32, 33, 34, 35, 36, 37, 38, 39, 40] rfl (by decide +kernel)
set_option maxRecDepth 20000 in
theorem gX1_freeOfCube_X1_isTestable : GoodIn wsX1_freeOfCube (wsV RX1 65 RX1 yX1_isTestable wsX1_isTestable) := goodIn_app (goodIn_of _ (by decide +kernel)) ggX1_freeOfCube_X1_isTestable
set_option maxRecDepth 20000 in
theorem ggX1_freeOfCube_X1_freeSources : GoodIn wsX1_freeOfCube wsX1_freeSources := goodIn_r _ [11, 12, 13, 14, 15, 4, 16, 6, 7, 17, 18, 19, 20, 21, 22, 23, 24, 25, 26, 27, 28, 29, 30, 31, 32, 33, 34, 35, 36, 37, 38, 39, 40, 41, 42, 43, 44, 45, 46, 47, 48, 49, 50] rfl (by decide +kernel)
set_option maxRecDepth 20000 in
theorem gX1_freeOfCube_X1_freeSources : GoodIn wsX1_freeOfCube (wsV RX1 73 RX1 yX1_freeSources wsX1_freeSources) := goodIn_app (goodIn_of _ (by decide +kernel)) ggX1_freeOfCube_X1_freeSources
set_option maxRecDepth 20000 in
theorem ggX1_weigh_X2_spread : GoodIn wsX1_weigh wsX2_spread := goodIn_r _ [13, 14, 15, 16, 17, 18, 12, 19, 20, 21, 53, 54, 55, 56, 57, 58, 59, 60, 61, 62] rfl (by decide +kernel)
set_option maxRecDepth 20000 in
theorem gX1_weigh_X2_spread : GoodIn wsX1_weigh (wsV RX1 79 RX2 yX2_spread wsX2_spread) := goodIn_app (goodIn_of _ (by decide +kernel)) ggX1_weigh_X2_spread
set_option maxRecDepth 20000 in
theorem ggX1_weigh_X2_settle : GoodIn wsX1_weigh wsX2_settle := goodIn_r _ [25, 26, 14, 16, 17, 18, 12, 19, 20, 21, 27, 28, 29, 30, 31, 32, 33, 34, 53, 54, 55, 56, 57, 58, 59, 60, 61, 62] rfl (by decide +kernel)
set_option maxRecDepth 20000 in
theorem gX1_weigh_X2_settle : GoodIn wsX1_weigh (wsV RX1 82 RX2 yX2_settle wsX2_settle) := goodIn_app (goodIn_of _ (by decide +kernel)) ggX1_weigh_X2_settle
set_option maxRecDepth 20000 in
theorem ggX1_weigh_X2_differing : GoodIn wsX1_weigh wsX2_differing := goodIn_r _ [38, 39, 14, 40, 21, 41, 53, 54, 55, 56, 57, 58, 59, 60, 61, 62] rfl (by decide +kernel)
set_option maxRecDepth 20000 in
theorem gX1_weigh_X2_differing : GoodIn wsX1_weigh (wsV RX1 95 RX2 yX2_differing wsX2_differing) := goodIn_app (goodIn_of _ (by decide +kernel)) ggX1_weigh_X2_differing
set_option maxRecDepth 20000 in
theorem ggX1_choose_X1_isTestable : GoodIn wsX1_choose wsX1_isTestable := goodIn_r _ [10, 11, 12, 69, 70, 71, 72, 73, 74, 75, 76, 77, 78, 79] rfl (by decide +kernel)
set_option maxRecDepth 20000 in
theorem gX1_choose_X1_isTestable : GoodIn wsX1_choose (wsV RX1 65 RX1 yX1_isTestable wsX1_isTestable) := goodIn_app (goodIn_of _ (by decide +kernel)) ggX1_choose_X1_isTestable
set_option maxRecDepth 20000 in
theorem ggX1_choose_X1_showsWithChosen : GoodIn wsX1_choose wsX1_showsWithChosen := goodIn_r _ [16, 2, 5, 17, 18, 19, 20, 9, 21, 22, 3, 23, 11, 12, 24, 25, 26, 27, 28, 29, 30, 69, 70, 71, 72, 73, 74, 75, 76, 77, 78, 79, 80, 81, 82, 83, 84, 85, 86, 87, 88, 89] rfl (by decide +kernel)
set_option maxRecDepth 20000 in
theorem gX1_choose_X1_showsWithChosen : GoodIn wsX1_choose (wsV RX1 105 RX1 yX1_showsWithChosen wsX1_showsWithChosen) := goodIn_app (goodIn_of _ (by decide +kernel)) ggX1_choose_X1_showsWithChosen
set_option maxRecDepth 20000 in
theorem ggX1_choose_X1_merge : GoodIn wsX1_choose wsX1_merge := goodIn_r _ [34, 2, 5, 17, 35, 36, 37, 9, 38, 3, 39, 40, 41, 42, 11, 12, 24, 25, 26, 27, 28, 29, 30, 18, 19, 20, 21, 22, 23, 69, 70, 71, 72, 73, 74, 75, 76, 77, 78, 79, 80, 81, 82, 83, 84, 85, 86, 87, 88, 89] rfl (by decide +kernel)
set_option maxRecDepth 20000 in
theorem gX1_choose_X1_merge : GoodIn wsX1_choose (wsV RX1 108 RX1 yX1_merge wsX1_merge) := goodIn_app (goodIn_of _ (by decide +kernel)) ggX1_choose_X1_merge
set_option maxRecDepth 20000 in
theorem ggX1_choose_X2_respond : GoodIn wsX1_choose wsX2_respond := goodIn_r _ [46, 47, 48, 49, 30, 50, 25, 26, 27, 28, 29, 51, 52, 53, 54, 55, 56, 57, 58, 59, 60, 61, 62, 63, 64, 65, 66, 67, 68, 80, 81, 82, 83, 84, 85, 86, 87, 88, 89] rfl (by decide +kernel)
set_option maxRecDepth 20000 in
theorem gX1_choose_X2_respond : GoodIn wsX1_choose (wsV RX1 111 RX2 yX2_respond wsX2_respond) := goodIn_app (goodIn_of _ (by decide +kernel)) ggX1_choose_X2_respond
set_option maxRecDepth 20000 in
theorem ggX1_showsWithChosen_X1_showsWith : GoodIn wsX1_showsWithChosen wsX1_showsWith := goodIn_r _ [8, 9, 10, 11, 12, 13, 14, 15, 16, 17, 18, 19, 20, 21, 22, 23, 24, 25, 26, 27, 28, 29, 30, 31, 32, 33, 34, 35, 36, 37, 38, 39, 40, 41] rfl (by decide +kernel)
set_option maxRecDepth 20000 in
theorem gX1_showsWithChosen_X1_showsWith : GoodIn wsX1_showsWithChosen (wsV RX1 115 RX1 yX1_showsWith wsX1_showsWith) := goodIn_app (goodIn_of _ (by decide +kernel)) ggX1_showsWithChosen_X1_showsWith
set_option maxRecDepth 20000 in
theorem ggX1_merge_X1_freeSources : GoodIn wsX1_merge wsX1_freeSources := goodIn_r _ [8, 9, 10, 11, 12, 7, 13, 14, 15, 16, 17, 18, 19, 20, 21, 22, 23, 24, 25, 26, 27, 28, 29, 30, 31, 32, 33, 34, 35, 36, 37, 38, 39, 40, 41, 42, 43, 44, 45, 46, 47, 48, 49] rfl (by decide +kernel)
set_option maxRecDepth 20000 in
theorem gX1_merge_X1_freeSources : GoodIn wsX1_merge (wsV RX1 73 RX1 yX1_freeSources wsX1_freeSources) := goodIn_app (goodIn_of _ (by decide +kernel)) ggX1_merge_X1_freeSources
set_option maxRecDepth 20000 in
theorem ggX1_merge_X1_leastPattern : GoodIn wsX1_merge wsX1_leastPattern := goodIn_r _ [13, 14, 15, 29, 30, 31, 32, 33, 34, 35, 36, 37, 38, 39] rfl (by decide +kernel)
set_option maxRecDepth 20000 in
theorem gX1_merge_X1_leastPattern : GoodIn wsX1_merge (wsV RX1 69 RX1 yX1_leastPattern wsX1_leastPattern) := goodIn_app (goodIn_of _ (by decide +kernel)) ggX1_merge_X1_leastPattern
set_option maxRecDepth 20000 in
theorem ggX1_freeSources_X1_leastPattern : GoodIn wsX1_freeSources wsX1_leastPattern := goodIn_r _ [6, 7, 8, 22, 23, 24, 25, 26, 27, 28, 29, 30, 31, 32] rfl (by decide +kernel)
set_option maxRecDepth 20000 in
theorem gX1_freeSources_X1_leastPattern : GoodIn wsX1_freeSources (wsV RX1 69 RX1 yX1_leastPattern wsX1_leastPattern) := goodIn_app (goodIn_of _ (by decide +kernel)) ggX1_freeSources_X1_leastPattern
set_option maxRecDepth 20000 in
theorem ggX1_freeSources_X2_sources : GoodIn wsX1_freeSources wsX2_sources := goodIn_r _ [13, 14, 15, 33, 34, 35, 36, 37, 38, 39, 40, 41, 42] rfl (by decide +kernel)
set_option maxRecDepth 20000 in
theorem gX1_freeSources_X2_sources : GoodIn wsX1_freeSources (wsV RX1 36 RX2 yX2_sources wsX2_sources) := goodIn_app (goodIn_of _ (by decide +kernel)) ggX1_freeSources_X2_sources
set_option maxRecDepth 20000 in
theorem ggX1_freeSources_X1_showsWith : GoodIn wsX1_freeSources wsX1_showsWith := goodIn_r _ [19, 20, 1, 21, 7, 8, 9, 10, 11, 12, 13, 14, 15, 22, 23, 24, 25, 26, 27, 28, 29, 30, 31, 32, 33, 34, 35, 36, 37, 38, 39, 40, 41, 42] rfl (by decide +kernel)
set_option maxRecDepth 20000 in
theorem gX1_freeSources_X1_showsWith : GoodIn wsX1_freeSources (wsV RX1 115 RX1 yX1_showsWith wsX1_showsWith) := goodIn_app (goodIn_of _ (by decide +kernel)) ggX1_freeSources_X1_showsWith
set_option maxRecDepth 20000 in
theorem ggX1_showsWith_X2_sources : GoodIn wsX1_showsWith wsX2_sources := goodIn_r _ [10, 11, 12, 24, 25, 26, 27, 28, 29, 30, 31, 32, 33] rfl (by decide +kernel)
set_option maxRecDepth 20000 in
theorem gX1_showsWith_X2_sources : GoodIn wsX1_showsWith (wsV RX1 36 RX2 yX2_sources wsX2_sources) := goodIn_app (goodIn_of _ (by decide +kernel)) ggX1_showsWith_X2_sources
