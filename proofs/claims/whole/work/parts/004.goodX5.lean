set_option maxRecDepth 20000 in
theorem ggX5_init_X2_init : GoodIn wsX5_init wsX2_init := goodIn_r _ [27, 28, 2, 3, 29, 30, 31, 32, 33, 34, 35, 36, 79, 80, 81, 82, 83, 84, 85, 86, 87, 88] rfl (by decide +kernel)
set_option maxRecDepth 20000 in
theorem gX5_init_X2_init_n15 : GoodIn wsX5_init (wsX2_init) := ggX5_init_X2_init
set_option maxRecDepth 20000 in
theorem ggX5_init_X4_init : GoodIn wsX5_init wsX4_init := goodIn_r _ [39, 40, 2, 3, 29, 41, 42, 43, 44, 89, 90, 91, 92, 93, 94, 95, 96, 97] rfl (by decide +kernel)
set_option maxRecDepth 20000 in
theorem gX5_init_X4_init : GoodIn wsX5_init (wsX4_init) := ggX5_init_X4_init
set_option maxRecDepth 20000 in
theorem ggX5_init_X1_init : GoodIn wsX5_init wsX1_init := goodIn_r _ [47, 48, 2, 3, 35, 49, 50, 29, 51, 52, 53, 54, 98, 99, 100, 101, 102, 103, 104, 105, 106, 107, 108] rfl (by decide +kernel)
set_option maxRecDepth 20000 in
theorem gX5_init_X1_init : GoodIn wsX5_init (wsX1_init) := ggX5_init_X1_init
set_option maxRecDepth 20000 in
theorem ggX5_init_X3_init : GoodIn wsX5_init wsX3_init := goodIn_r _ [57, 58, 2, 3, 59, 60, 61, 23, 24, 62, 63, 64, 65, 66, 67, 68, 69, 70, 109, 110, 111, 112, 113, 114, 115, 116, 117, 118] rfl (by decide +kernel)
set_option maxRecDepth 20000 in
theorem gX5_init_X3_init : GoodIn wsX5_init (wsX3_init) := ggX5_init_X3_init
set_option maxRecDepth 20000 in
theorem ggX5_init_X0_init : GoodIn wsX5_init wsX0_init := goodIn_r _ [65, 66, 2, 3, 67, 68, 69, 70, 112, 113, 114, 115, 116, 117, 118] rfl (by decide +kernel)
set_option maxRecDepth 20000 in
theorem gX5_init_X0_init : GoodIn wsX5_init (wsX0_init) := ggX5_init_X0_init
set_option maxRecDepth 20000 in
theorem ggX5_feed_X4_append : GoodIn wsX5_feed wsX4_append := goodIn_r _ [8, 9, 10, 11, 19, 20, 21, 22, 23, 24, 25, 26, 27] rfl (by decide +kernel)
set_option maxRecDepth 20000 in
theorem gX5_feed_X4_append : GoodIn wsX5_feed (wsV RX5 58 RX4 yX4_append wsX4_append) := goodIn_app (goodIn_of _ (by decide +kernel)) ggX5_feed_X4_append
set_option maxRecDepth 20000 in
theorem ggX5_wipe_X4_empty : GoodIn wsX5_wipe wsX4_empty := goodIn_r _ [6, 7, 15, 16, 17, 18, 19, 20, 21, 22, 23] rfl (by decide +kernel)
set_option maxRecDepth 20000 in
theorem gX5_wipe_X4_empty : GoodIn wsX5_wipe (wsV RX5 62 RX4 yX4_empty wsX4_empty) := goodIn_app (goodIn_of _ (by decide +kernel)) ggX5_wipe_X4_empty
set_option maxRecDepth 20000 in
theorem ggX5_read_X4_accept : GoodIn wsX5_read wsX4_accept := goodIn_r _ [11, 12, 13, 14, 15, 16, 17, 18, 19, 20, 21, 22, 23, 24, 25, 26, 27, 28, 29, 30, 31, 32, 33, 34, 10, 35, 36, 37, 38, 39, 40, 41, 42, 43, 44, 45, 46, 47, 48, 49, 50, 51, 52, 53, 54, 55, 56, 57, 58, 59, 60, 61, 62, 63, 64, 65, 66, 67, 68, 69, 70, 71, 72, 73, 74, 75, 76, 77, 78, 79, 80, 81, 82, 83, 84, 85, 86, 87, 88, 89, 90, 91, 92, 93, 94, 95, 96, 97, 98, 99, 100, 101, 102, 103, 104, 105, 106, 107, 108, 109, 110, 111, 112, 113, 114, 115, 116, 117, 118, 119, 120, 121, 122, 123, 124, 125, 126, 127, 128, 129, 130, 131, 132, 133, 134, 135, 136, 137, 138, 139, 140, 141, 142, 143, 144, 145, 146, 147, 148, 149, 150, 151, 152, 153, 154, 155, 156, 157, 158, 159, 160, 161, 162, 163, 164, 165, 166, 167, 168, 169, 170, 171, 172, 173, 174, 175, 176, 177, 178, 179, 180, 181, 228, 229, 230, 231, 232, 233, 234, 235, 236, 218, 219, 220, 221, 222, 223, 224, 225, 226, 227] rfl (by decide +kernel)
set_option maxRecDepth 20000 in
theorem gX5_read_X4_accept : GoodIn wsX5_read (wsV RX5 66 RX4 yX4_accept wsX4_accept) := goodIn_app (goodIn_of _ (by decide +kernel)) ggX5_read_X4_accept
set_option maxRecDepth 20000 in
theorem ggX5_read_X2_become : GoodIn wsX5_read wsX2_become := goodIn_r _ [185, 22, 23, 24, 25, 186, 187, 188, 189, 190, 191, 192, 193, 26, 218, 219, 220, 221, 222, 223, 224, 225, 226, 227] rfl (by decide +kernel)
set_option maxRecDepth 20000 in
theorem gX5_read_X2_become : GoodIn wsX5_read (wsV RX5 70 RX2 yX2_become wsX2_become) := goodIn_app (goodIn_of _ (by decide +kernel)) ggX5_read_X2_become
set_option maxRecDepth 20000 in
theorem ggX5_read_X1_forget : GoodIn wsX5_read wsX1_forget := goodIn_r _ [198, 199, 237, 238, 239, 240, 241, 242, 243, 244, 245, 246, 247] rfl (by decide +kernel)
set_option maxRecDepth 20000 in
theorem gX5_read_X1_forget : GoodIn wsX5_read (wsV RX5 73 RX1 yX1_forget wsX1_forget) := goodIn_app (goodIn_of _ (by decide +kernel)) ggX5_read_X1_forget
set_option maxRecDepth 20000 in
theorem ggX5_read_X0_renew : GoodIn wsX5_read wsX0_renew := goodIn_r _ [204, 205, 206, 207, 208, 209, 210, 248, 249, 250, 251, 252, 253, 254] rfl (by decide +kernel)
set_option maxRecDepth 20000 in
theorem gX5_read_X0_renew : GoodIn wsX5_read (wsV RX5 76 RX0 yX0_renew wsX0_renew) := goodIn_app (goodIn_of _ (by decide +kernel)) ggX5_read_X0_renew
set_option maxRecDepth 20000 in
theorem ggX5_told_X1_make : GoodIn wsX5_told wsX1_make := goodIn_r _ [10, 11, 12, 13, 14, 15, 16, 17, 18, 19, 20, 21, 22, 23, 24, 25, 9, 26, 27, 28, 29, 30, 31, 32, 33, 34, 35, 36, 37, 38, 39, 40, 41, 42, 43, 44, 45, 46, 47, 48, 49, 50, 51, 52, 53, 54, 55, 56, 57, 58, 59, 60, 61, 62, 63, 64, 65, 66, 67, 68, 69, 70, 71, 72, 73, 74, 75, 76, 77, 78, 79, 80, 81, 82, 83, 84, 85, 86, 87, 88, 89, 90, 91, 92, 93, 94, 95, 96, 97, 98, 99, 100, 101, 130, 131, 132, 133, 134, 135, 136, 137, 138, 139, 140, 120, 121, 122, 123, 124, 125, 126, 127, 128, 129] rfl (by decide +kernel)
set_option maxRecDepth 20000 in
theorem gX5_told_X1_make : GoodIn wsX5_told (wsV RX5 98 RX1 yX1_make wsX1_make) := goodIn_app (goodIn_of _ (by decide +kernel)) ggX5_told_X1_make
set_option maxRecDepth 20000 in
theorem ggX5_told_X3_rowCount : GoodIn wsX5_told wsX3_rowCount := goodIn_r _ [106, 107, 108, 109, 110, 105, 111, 112, 141, 142, 143, 130, 131, 132, 133, 134, 135, 136, 137, 138, 139, 140, 120, 121, 122, 123, 124, 125, 126, 127, 128, 129] rfl (by decide +kernel)
set_option maxRecDepth 20000 in
theorem gX5_told_X3_rowCount : GoodIn wsX5_told (wsV RX5 107 RX3 yX3_rowCount wsX3_rowCount) := goodIn_app (goodIn_of _ (by decide +kernel)) ggX5_told_X3_rowCount
set_option maxRecDepth 20000 in
theorem ggX5_answer_X2_sources : GoodIn wsX5_answer wsX2_sources := goodIn_r _ [10, 11, 12, 58, 59, 60, 61, 62, 63, 64, 65, 66, 67] rfl (by decide +kernel)
set_option maxRecDepth 20000 in
theorem gX5_answer_X2_sources : GoodIn wsX5_answer (wsV RX5 110 RX2 yX2_sources wsX2_sources) := goodIn_app (goodIn_of _ (by decide +kernel)) ggX5_answer_X2_sources
set_option maxRecDepth 20000 in
theorem ggX5_answer_X5_hasBitsBeyond : GoodIn wsX5_answer wsX5_hasBitsBeyond := goodIn_r _ [16] rfl (by decide +kernel)
set_option maxRecDepth 20000 in
theorem gX5_answer_X5_hasBitsBeyond : GoodIn wsX5_answer (va_wsS RX5 113 yX5_hasBitsBeyond wsX5_hasBitsBeyond) := goodIn_app (goodIn_of _ (by decide +kernel)) ggX5_answer_X5_hasBitsBeyond
set_option maxRecDepth 20000 in
theorem ggX5_answer_X5_isChip : GoodIn wsX5_answer wsX5_isChip := goodIn_r _ [20, 21, 22, 23, 15, 24, 5, 51, 52, 53, 54, 55, 56, 57, 58, 59, 60, 61, 62, 63, 64, 65, 66, 67] rfl (by decide +kernel)
set_option maxRecDepth 20000 in
theorem gX5_answer_X5_isChip : GoodIn wsX5_answer (wsV RX5 117 RX5 yX5_isChip wsX5_isChip) := goodIn_app (goodIn_of _ (by decide +kernel)) ggX5_answer_X5_isChip
set_option maxRecDepth 20000 in
theorem ggX5_answer_X2_respond : GoodIn wsX5_answer wsX2_respond := goodIn_r _ [28, 29, 30, 31, 12, 32, 7, 8, 9, 10, 11, 33, 34, 35, 36, 37, 38, 39, 40, 41, 42, 43, 44, 45, 46, 47, 48, 49, 50, 58, 59, 60, 61, 62, 63, 64, 65, 66, 67] rfl (by decide +kernel)
set_option maxRecDepth 20000 in
theorem gX5_answer_X2_respond : GoodIn wsX5_answer (wsV RX5 124 RX2 yX2_respond wsX2_respond) := goodIn_app (goodIn_of _ (by decide +kernel)) ggX5_answer_X2_respond
set_option maxRecDepth 20000 in
theorem ggX5_shows_X5_isStuck : GoodIn wsX5_shows wsX5_isStuck := goodIn_r _ [10, 11, 128, 129, 130, 131, 132, 133, 134, 135, 136, 137, 138, 139, 140, 141, 142, 143, 144] rfl (by decide +kernel)
set_option maxRecDepth 20000 in
theorem gX5_shows_X5_isStuck : GoodIn wsX5_shows (wsV RX5 128 RX5 yX5_isStuck wsX5_isStuck) := goodIn_app (goodIn_of _ (by decide +kernel)) ggX5_shows_X5_isStuck
set_option maxRecDepth 20000 in
theorem ggX5_shows_X1_make : GoodIn wsX5_shows wsX1_make := goodIn_r _ [16, 17, 18, 19, 20, 21, 22, 23, 24, 25, 26, 27, 28, 29, 30, 31, 15, 32, 33, 34, 35, 36, 37, 38, 39, 40, 41, 42, 43, 44, 45, 46, 47, 48, 49, 50, 51, 52, 53, 54, 55, 56, 57, 58, 59, 60, 61, 62, 63, 64, 65, 66, 67, 68, 69, 70, 71, 72, 73, 74, 75, 76, 77, 78, 79, 80, 81, 82, 83, 84, 85, 86, 87, 88, 89, 90, 91, 92, 93, 94, 95, 96, 97, 98, 99, 100, 101, 102, 103, 104, 105, 106, 107, 145, 146, 147, 148, 149, 150, 151, 152, 153, 154, 155, 135, 136, 137, 138, 139, 140, 141, 142, 143, 144] rfl (by decide +kernel)
set_option maxRecDepth 20000 in
theorem gX5_shows_X1_make : GoodIn wsX5_shows (wsV RX5 98 RX1 yX1_make wsX1_make) := goodIn_app (goodIn_of _ (by decide +kernel)) ggX5_shows_X1_make
set_option maxRecDepth 20000 in
theorem ggX5_shows_X1_patternCount : GoodIn wsX5_shows wsX1_patternCount := goodIn_r _ [111, 19, 38, 112, 113, 114, 115, 116, 117, 118, 145, 146, 147, 148, 149, 150, 151, 152, 153, 154, 155] rfl (by decide +kernel)
set_option maxRecDepth 20000 in
theorem gX5_shows_X1_patternCount : GoodIn wsX5_shows (wsV RX5 131 RX1 yX1_patternCount wsX1_patternCount) := goodIn_app (goodIn_of _ (by decide +kernel)) ggX5_shows_X1_patternCount
set_option maxRecDepth 20000 in
theorem ggX5_shows_X1_leastPattern : GoodIn wsX5_shows wsX1_leastPattern := goodIn_r _ [98, 19, 38, 145, 146, 147, 148, 149, 150, 151, 152, 153, 154, 155] rfl (by decide +kernel)
set_option maxRecDepth 20000 in
theorem gX5_shows_X1_leastPattern : GoodIn wsX5_shows (wsV RX5 135 RX1 yX1_leastPattern wsX1_leastPattern) := goodIn_app (goodIn_of _ (by decide +kernel)) ggX5_shows_X1_leastPattern
set_option maxRecDepth 20000 in
theorem ggX5_shows_X1_onesOfCube : GoodIn wsX5_shows wsX1_onesOfCube := goodIn_r _ [123, 74, 75, 76, 15, 77, 19, 38, 95, 96, 97, 98, 91, 92, 93, 94, 18, 22, 23, 24, 25, 26, 27, 28, 83, 84, 85, 86, 21, 20, 145, 146, 147, 148, 149, 150, 151, 152, 153, 154, 155, 135, 136, 137, 138, 139, 140, 141, 142, 143, 144] rfl (by decide +kernel)
set_option maxRecDepth 20000 in
theorem gX5_shows_X1_onesOfCube : GoodIn wsX5_shows (wsV RX5 138 RX1 yX1_onesOfCube wsX1_onesOfCube) := goodIn_app (goodIn_of _ (by decide +kernel)) ggX5_shows_X1_onesOfCube
set_option maxRecDepth 20000 in
theorem ggX5_shows_X1_freeOfCube : GoodIn wsX5_shows wsX1_freeOfCube := goodIn_r _ [127, 74, 75, 76, 15, 77, 19, 38, 91, 92, 93, 94, 18, 95, 96, 97, 98, 22, 23, 24, 25, 26, 27, 28, 83, 84, 85, 86, 21, 20, 145, 146, 147, 148, 149, 150, 151, 152, 153, 154, 155, 135, 136, 137, 138, 139, 140, 141, 142, 143, 144] rfl (by decide +kernel)
set_option maxRecDepth 20000 in
theorem gX5_shows_X1_freeOfCube : GoodIn wsX5_shows (wsV RX5 141 RX1 yX1_freeOfCube wsX1_freeOfCube) := goodIn_app (goodIn_of _ (by decide +kernel)) ggX5_shows_X1_freeOfCube
set_option maxRecDepth 20000 in
theorem ggX5_test_X1_make : GoodIn wsX5_test wsX1_make := goodIn_r _ [8, 9, 10, 11, 12, 13, 14, 15, 16, 17, 18, 19, 20, 21, 22, 23, 7, 24, 25, 26, 27, 28, 29, 30, 31, 32, 33, 34, 35, 36, 37, 38, 39, 40, 41, 42, 43, 44, 45, 46, 47, 48, 49, 50, 51, 52, 53, 54, 55, 56, 57, 58, 59, 60, 61, 62, 63, 64, 65, 66, 67, 68, 69, 70, 71, 72, 73, 74, 75, 76, 77, 78, 79, 80, 81, 82, 83, 84, 85, 86, 87, 88, 89, 90, 91, 92, 93, 94, 95, 96, 97, 98, 99, 107, 108, 109, 110, 111, 112, 113, 114, 115, 116, 117, 118, 119, 120, 121, 122, 123, 124, 125, 126, 127] rfl (by decide +kernel)
set_option maxRecDepth 20000 in
theorem gX5_test_X1_make : GoodIn wsX5_test (wsV RX5 98 RX1 yX1_make wsX1_make) := goodIn_app (goodIn_of _ (by decide +kernel)) ggX5_test_X1_make
set_option maxRecDepth 20000 in
theorem ggX5_row_X1_make : GoodIn wsX5_row wsX1_make := goodIn_r _ [11, 12, 13, 14, 15, 16, 17, 18, 19, 20, 21, 22, 23, 24, 25, 26, 10, 27, 28, 29, 30, 31, 32, 33, 34, 35, 36, 37, 38, 39, 40, 41, 42, 43, 44, 45, 46, 47, 48, 49, 50, 51, 52, 53, 54, 55, 56, 57, 58, 59, 60, 61, 62, 63, 64, 65, 66, 67, 68, 69, 70, 71, 72, 73, 74, 75, 76, 77, 78, 79, 80, 81, 82, 83, 84, 85, 86, 87, 88, 89, 90, 91, 92, 93, 94, 95, 96, 97, 98, 99, 100, 101, 102, 175, 176, 177, 178, 179, 180, 181, 182, 183, 184, 185, 186, 187, 188, 189, 190, 191, 192, 193, 194, 195] rfl (by decide +kernel)
set_option maxRecDepth 20000 in
theorem gX5_row_X1_make : GoodIn wsX5_row (wsV RX5 98 RX1 yX1_make wsX1_make) := goodIn_app (goodIn_of _ (by decide +kernel)) ggX5_row_X1_make
set_option maxRecDepth 20000 in
theorem ggX5_row_X3_rowCount : GoodIn wsX5_row wsX3_rowCount := goodIn_r _ [107, 108, 109, 110, 111, 106, 112, 113, 196, 197, 198, 175, 176, 177, 178, 179, 180, 181, 182, 183, 184, 185, 186, 187, 188, 189, 190, 191, 192, 193, 194, 195] rfl (by decide +kernel)
set_option maxRecDepth 20000 in
theorem gX5_row_X3_rowCount : GoodIn wsX5_row (wsV RX5 107 RX3 yX3_rowCount wsX3_rowCount) := goodIn_app (goodIn_of _ (by decide +kernel)) ggX5_row_X3_rowCount
set_option maxRecDepth 20000 in
theorem ggX5_row_X3_tms : GoodIn wsX5_row wsX3_tms := goodIn_r _ [117, 118, 113, 119, 120, 121, 106, 122, 109, 110, 111, 112, 196, 197, 198, 186, 187, 188, 189, 190, 191, 192, 193, 194, 195] rfl (by decide +kernel)
set_option maxRecDepth 20000 in
theorem gX5_row_X3_tms : GoodIn wsX5_row (wsV RX5 148 RX3 yX3_tms wsX3_tms) := goodIn_app (goodIn_of _ (by decide +kernel)) ggX5_row_X3_tms
set_option maxRecDepth 20000 in
theorem ggX5_row_X3_tdi : GoodIn wsX5_row wsX3_tdi := goodIn_r _ [126, 127, 108, 113, 128, 129, 130, 106, 131, 119, 120, 121, 122, 109, 110, 111, 112, 132, 133, 134, 135, 136, 137, 138, 139, 196, 197, 198, 175, 176, 177, 178, 179, 180, 181, 182, 183, 184, 185, 186, 187, 188, 189, 190, 191, 192, 193, 194, 195] rfl (by decide +kernel)
set_option maxRecDepth 20000 in
theorem gX5_row_X3_tdi : GoodIn wsX5_row (wsV RX5 151 RX3 yX3_tdi wsX3_tdi) := goodIn_app (goodIn_of _ (by decide +kernel)) ggX5_row_X3_tdi
set_option maxRecDepth 20000 in
theorem ggX5_row_X3_inputs : GoodIn wsX5_row wsX3_inputs := goodIn_r _ [143, 113, 108, 144, 145, 146, 106, 147, 119, 120, 121, 122, 109, 110, 111, 112, 132, 133, 134, 135, 148, 149, 150, 20, 151, 22, 196, 197, 198, 175, 176, 177, 178, 179, 180, 181, 182, 183, 184, 185, 186, 187, 188, 189, 190, 191, 192, 193, 194, 195] rfl (by decide +kernel)
set_option maxRecDepth 20000 in
theorem gX5_row_X3_inputs : GoodIn wsX5_row (wsV RX5 154 RX3 yX3_inputs wsX3_inputs) := goodIn_app (goodIn_of _ (by decide +kernel)) ggX5_row_X3_inputs
set_option maxRecDepth 20000 in
theorem ggX5_row_X3_tdoDue : GoodIn wsX5_row wsX3_tdoDue := goodIn_r _ [155, 113, 108, 128, 129, 130, 106, 131, 119, 120, 121, 122, 109, 110, 111, 112, 132, 133, 134, 135, 156, 157, 158, 20, 159, 58, 136, 137, 138, 139, 196, 197, 198, 175, 176, 177, 178, 179, 180, 181, 182, 183, 184, 185, 186, 187, 188, 189, 190, 191, 192, 193, 194, 195] rfl (by decide +kernel)
set_option maxRecDepth 20000 in
theorem gX5_row_X3_tdoDue : GoodIn wsX5_row (wsV RX5 156 RX3 yX3_tdoDue wsX3_tdoDue) := goodIn_app (goodIn_of _ (by decide +kernel)) ggX5_row_X3_tdoDue
set_option maxRecDepth 20000 in
theorem ggX5_row_X3_outputsDue : GoodIn wsX5_row wsX3_outputsDue := goodIn_r _ [163, 113, 108, 144, 145, 146, 106, 147, 119, 120, 121, 122, 109, 110, 111, 112, 132, 133, 134, 135, 164, 165, 166, 20, 167, 58, 196, 197, 198, 175, 176, 177, 178, 179, 180, 181, 182, 183, 184, 185, 186, 187, 188, 189, 190, 191, 192, 193, 194, 195] rfl (by decide +kernel)
set_option maxRecDepth 20000 in
theorem gX5_row_X3_outputsDue : GoodIn wsX5_row (wsV RX5 159 RX3 yX3_outputsDue wsX3_outputsDue) := goodIn_app (goodIn_of _ (by decide +kernel)) ggX5_row_X3_outputsDue
set_option maxRecDepth 20000 in
theorem ggX5_fails_X5_isChip : GoodIn wsX5_fails wsX5_isChip := goodIn_r _ [9, 10, 11, 12, 8, 13, 14, 229, 230, 231, 232, 233, 234, 235, 236, 237, 238, 239, 240, 241, 242, 243, 244, 245] rfl (by decide +kernel)
set_option maxRecDepth 20000 in
theorem gX5_fails_X5_isChip : GoodIn wsX5_fails (wsV RX5 117 RX5 yX5_isChip wsX5_isChip) := goodIn_app (goodIn_of _ (by decide +kernel)) ggX5_fails_X5_isChip
set_option maxRecDepth 20000 in
theorem ggX5_fails_X1_make : GoodIn wsX5_fails wsX1_make := goodIn_r _ [19, 20, 21, 22, 23, 24, 25, 26, 27, 28, 29, 30, 31, 32, 33, 34, 18, 35, 36, 37, 38, 39, 40, 41, 42, 43, 44, 45, 46, 47, 48, 49, 50, 51, 52, 53, 54, 55, 56, 57, 58, 59, 60, 61, 62, 63, 64, 65, 66, 67, 68, 69, 70, 71, 72, 73, 74, 75, 76, 77, 78, 79, 80, 81, 82, 83, 84, 85, 86, 87, 88, 89, 90, 91, 92, 93, 94, 95, 96, 97, 98, 99, 100, 101, 102, 103, 104, 105, 106, 107, 108, 109, 110, 246, 247, 248, 249, 250, 251, 252, 253, 254, 255, 256, 236, 237, 238, 239, 240, 241, 242, 243, 244, 245] rfl (by decide +kernel)
set_option maxRecDepth 20000 in
theorem gX5_fails_X1_make : GoodIn wsX5_fails (wsV RX5 98 RX1 yX1_make wsX1_make) := goodIn_app (goodIn_of _ (by decide +kernel)) ggX5_fails_X1_make
set_option maxRecDepth 20000 in
theorem ggX5_fails_X3_failingRow : GoodIn wsX5_fails wsX3_failingRow := goodIn_r _ [115, 116, 117, 118, 119, 120, 121, 122, 123, 124, 125, 126, 127, 128, 129, 130, 114, 131, 132, 133, 134, 135, 136, 137, 138, 139, 140, 141, 142, 143, 144, 145, 146, 147, 148, 149, 150, 151, 152, 153, 154, 155, 156, 157, 158, 159, 160, 28, 161, 66, 162, 163, 164, 165, 166, 167, 168, 169, 170, 171, 172, 173, 174, 175, 176, 177, 178, 179, 180, 181, 182, 183, 184, 185, 186, 187, 188, 189, 190, 191, 192, 193, 194, 195, 30, 196, 197, 198, 199, 200, 201, 202, 203, 204, 103, 104, 105, 46, 67, 31, 48, 26, 27, 29, 106, 50, 51, 52, 53, 54, 55, 56, 57, 58, 59, 60, 61, 107, 108, 109, 110, 68, 205, 206, 207, 208, 209, 210, 211, 212, 213, 214, 215, 216, 217, 218, 219, 220, 221, 222, 223, 224, 225, 226, 227, 228, 257, 258, 259, 260, 261, 262, 263, 264, 265, 266, 246, 247, 248, 249, 250, 251, 252, 253, 254, 255, 256, 236, 237, 238, 239, 240, 241, 242, 243, 244, 245] rfl (by decide +kernel)
set_option maxRecDepth 20000 in
theorem gX5_fails_X3_failingRow : GoodIn wsX5_fails (wsV RX5 162 RX3 yX3_failingRow wsX3_failingRow) := goodIn_app (goodIn_of _ (by decide +kernel)) ggX5_fails_X3_failingRow
set_option maxRecDepth 20000 in
theorem ggX5_escapes_X1_make : GoodIn wsX5_escapes wsX1_make := goodIn_r _ [9, 10, 11, 12, 13, 14, 15, 16, 17, 18, 19, 20, 21, 22, 23, 24, 8, 25, 26, 27, 28, 29, 30, 31, 32, 33, 34, 35, 36, 37, 38, 39, 40, 41, 42, 43, 44, 45, 46, 47, 48, 49, 50, 51, 52, 53, 54, 55, 56, 57, 58, 59, 60, 61, 62, 63, 64, 65, 66, 67, 68, 69, 70, 71, 72, 73, 74, 75, 76, 77, 78, 79, 80, 81, 82, 83, 84, 85, 86, 87, 88, 89, 90, 91, 92, 93, 94, 95, 96, 97, 98, 99, 100, 237, 238, 239, 240, 241, 242, 243, 244, 245, 246, 247, 227, 228, 229, 230, 231, 232, 233, 234, 235, 236] rfl (by decide +kernel)
set_option maxRecDepth 20000 in
theorem gX5_escapes_X1_make : GoodIn wsX5_escapes (wsV RX5 98 RX1 yX1_make wsX1_make) := goodIn_app (goodIn_of _ (by decide +kernel)) ggX5_escapes_X1_make
set_option maxRecDepth 20000 in
theorem ggX5_escapes_X1_isTestable : GoodIn wsX5_escapes wsX1_isTestable := goodIn_r _ [70, 12, 31, 237, 238, 239, 240, 241, 242, 243, 244, 245, 246, 247] rfl (by decide +kernel)
set_option maxRecDepth 20000 in
theorem gX5_escapes_X1_isTestable : GoodIn wsX5_escapes (wsV RX5 165 RX1 yX1_isTestable wsX1_isTestable) := goodIn_app (goodIn_of _ (by decide +kernel)) ggX5_escapes_X1_isTestable
set_option maxRecDepth 20000 in
theorem ggX5_escapes_X3_failingRow : GoodIn wsX5_escapes wsX3_failingRow := goodIn_r _ [106, 107, 108, 109, 110, 111, 112, 113, 114, 115, 116, 117, 118, 119, 120, 121, 105, 122, 123, 124, 125, 126, 127, 128, 129, 130, 131, 132, 133, 134, 135, 136, 137, 138, 139, 140, 141, 142, 143, 144, 145, 146, 147, 148, 149, 150, 151, 18, 152, 56, 153, 154, 155, 156, 157, 158, 159, 160, 161, 162, 163, 164, 165, 166, 167, 168, 169, 170, 171, 172, 173, 174, 175, 176, 177, 178, 179, 180, 181, 182, 183, 184, 185, 186, 20, 187, 188, 189, 190, 191, 192, 193, 194, 195, 93, 94, 95, 36, 57, 21, 38, 16, 17, 19, 96, 40, 41, 42, 43, 44, 45, 46, 47, 48, 49, 50, 51, 97, 98, 99, 100, 58, 196, 197, 198, 199, 200, 201, 202, 203, 204, 205, 206, 207, 208, 209, 210, 211, 212, 213, 214, 215, 216, 217, 218, 219, 248, 249, 250, 251, 252, 253, 254, 255, 256, 257, 237, 238, 239, 240, 241, 242, 243, 244, 245, 246, 247, 227, 228, 229, 230, 231, 232, 233, 234, 235, 236] rfl (by decide +kernel)
set_option maxRecDepth 20000 in
theorem gX5_escapes_X3_failingRow : GoodIn wsX5_escapes (wsV RX5 162 RX3 yX3_failingRow wsX3_failingRow) := goodIn_app (goodIn_of _ (by decide +kernel)) ggX5_escapes_X3_failingRow
set_option maxRecDepth 20000 in
theorem ggX5_chip_X5_isChip : GoodIn wsX5_chip wsX5_isChip := goodIn_r _ [8, 9, 10, 11, 7, 12, 13, 25, 26, 27, 28, 29, 30, 31, 32, 33, 34, 35, 36, 37, 38, 39, 40, 41] rfl (by decide +kernel)
set_option maxRecDepth 20000 in
theorem gX5_chip_X5_isChip : GoodIn wsX5_chip (wsV RX5 117 RX5 yX5_isChip wsX5_isChip) := goodIn_app (goodIn_of _ (by decide +kernel)) ggX5_chip_X5_isChip
set_option maxRecDepth 20000 in
theorem ggX5_chip_X0_renew : GoodIn wsX5_chip wsX0_renew := goodIn_r _ [18, 19, 20, 21, 22, 23, 24, 42, 43, 44, 45, 46, 47, 48] rfl (by decide +kernel)
set_option maxRecDepth 20000 in
theorem gX5_chip_X0_renew : GoodIn wsX5_chip (wsV RX5 76 RX0 yX0_renew wsX0_renew) := goodIn_app (goodIn_of _ (by decide +kernel)) ggX5_chip_X0_renew
set_option maxRecDepth 20000 in
theorem ggX5_clock_X5_hasBitsBeyond : GoodIn wsX5_clock wsX5_hasBitsBeyond := goodIn_r _ [8] rfl (by decide +kernel)
set_option maxRecDepth 20000 in
theorem gX5_clock_X5_hasBitsBeyond : GoodIn wsX5_clock (va_wsS RX5 113 yX5_hasBitsBeyond wsX5_hasBitsBeyond) := goodIn_app (goodIn_of _ (by decide +kernel)) ggX5_clock_X5_hasBitsBeyond
set_option maxRecDepth 20000 in
theorem ggX5_clock_X0_outputs : GoodIn wsX5_clock wsX0_outputs := goodIn_r _ [13, 14, 15, 16, 17, 18, 12, 19, 20, 21, 22, 23, 24, 25, 26, 27, 28, 29, 30, 31, 32, 33, 34, 35, 36, 37, 38, 39, 40, 41, 42, 43, 44, 45, 46, 47, 48, 49, 50, 51, 52, 53, 54, 55, 56, 103, 104, 105, 106, 107, 108, 109, 93, 94, 95, 96, 97, 98, 99, 100, 101, 102] rfl (by decide +kernel)
set_option maxRecDepth 20000 in
theorem gX5_clock_X0_outputs : GoodIn wsX5_clock (wsV RX5 168 RX0 yX0_outputs wsX0_outputs) := goodIn_app (goodIn_of _ (by decide +kernel)) ggX5_clock_X0_outputs
set_option maxRecDepth 20000 in
theorem ggX5_clock_X0_tdo : GoodIn wsX5_clock wsX0_tdo := goodIn_r _ [60, 61, 62, 63, 64, 14, 20, 103, 104, 105, 106, 107, 108, 109, 93, 94, 95, 96, 97, 98, 99, 100, 101, 102] rfl (by decide +kernel)
set_option maxRecDepth 20000 in
theorem gX5_clock_X0_tdo : GoodIn wsX5_clock (wsV RX5 170 RX0 yX0_tdo wsX0_tdo) := goodIn_app (goodIn_of _ (by decide +kernel)) ggX5_clock_X0_tdo
set_option maxRecDepth 20000 in
theorem ggX5_clock_X0_pulse : GoodIn wsX5_clock wsX0_pulse := goodIn_r _ [68, 61, 63, 62, 69, 70, 71, 72, 12, 73, 14, 15, 20, 16, 17, 18, 19, 21, 22, 23, 24, 25, 26, 27, 28, 29, 30, 31, 32, 33, 34, 35, 36, 37, 38, 39, 40, 41, 42, 43, 44, 45, 46, 47, 48, 49, 50, 51, 52, 74, 75, 76, 77, 78, 79, 80, 81, 64, 82, 83, 84, 85, 103, 104, 105, 106, 107, 108, 109, 93, 94, 95, 96, 97, 98, 99, 100, 101, 102] rfl (by decide +kernel)
set_option maxRecDepth 20000 in
theorem gX5_clock_X0_pulse : GoodIn wsX5_clock (wsV RX5 173 RX0 yX0_pulse wsX0_pulse) := goodIn_app (goodIn_of _ (by decide +kernel)) ggX5_clock_X0_pulse
set_option maxRecDepth 20000 in
theorem ggX5_isChip_X5_isStuck : GoodIn wsX5_isChip wsX5_isStuck := goodIn_r _ [5, 6, 7, 8, 9, 10, 11, 12, 13, 14, 15, 16, 17, 18, 19, 20, 21, 22, 23] rfl (by decide +kernel)
set_option maxRecDepth 20000 in
theorem gX5_isChip_X5_isStuck : GoodIn wsX5_isChip (wsV RX5 128 RX5 yX5_isStuck wsX5_isStuck) := goodIn_app (goodIn_of _ (by decide +kernel)) ggX5_isChip_X5_isStuck
