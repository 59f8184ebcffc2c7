set_option maxRecDepth 20000 in
theorem ggX4_accept_X2_clear : GoodIn wsX4_accept wsX2_clear := goodIn_r _ [10, 11, 12, 13, 14, 15, 16, 17, 18, 19, 181, 182, 183, 184, 185, 186, 187, 188, 189, 190] rfl (by decide +kernel)
set_option maxRecDepth 20000 in
theorem gX4_accept_X2_clear : GoodIn wsX4_accept (wsV RX4 31 RX2 yX2_clear wsX2_clear) := goodIn_app (goodIn_of _ (by decide +kernel)) ggX4_accept_X2_clear
set_option maxRecDepth 20000 in
theorem ggX4_accept_J7_fill_53178 : GoodIn wsX4_accept wsJ7_fill_53178 := goodIn_r _ [19] rfl (by decide +kernel)
set_option maxRecDepth 20000 in
theorem gX4_accept_J7_fill_53178 : GoodIn wsX4_accept (va_wsS RX4 36 yJ7_fill_53178 wsJ7_fill_53178) := goodIn_app (goodIn_of _ (by decide +kernel)) ggX4_accept_J7_fill_53178
set_option maxRecDepth 20000 in
theorem ggX4_accept_X4_advance : GoodIn wsX4_accept wsX4_advance := goodIn_r _ [25, 5, 26, 27, 28, 29, 30, 31, 24, 32, 33, 34, 35, 36, 172, 173, 174, 175, 176, 177, 178, 179, 180] rfl (by decide +kernel)
set_option maxRecDepth 20000 in
theorem gX4_accept_X4_advance : GoodIn wsX4_accept (wsV RX4 48 RX4 yX4_advance wsX4_advance) := goodIn_app (goodIn_of _ (by decide +kernel)) ggX4_accept_X4_advance
set_option maxRecDepth 20000 in
theorem ggX4_accept_X4_word : GoodIn wsX4_accept wsX4_word := goodIn_r _ [40, 26, 41, 42, 43, 24, 44, 5, 27, 28, 45, 46, 47, 48, 49, 50, 51, 52, 53, 54, 55, 56, 57, 58, 59, 60, 61, 62, 63, 64, 65, 66, 67, 68, 69, 70, 71, 72, 73, 74, 75, 76, 77, 78, 79, 80, 81, 82, 83, 84, 85, 86, 87, 88, 89, 90, 91, 92, 93, 94, 95, 96, 97, 3, 4, 21, 22, 23, 25, 29, 30, 31, 32, 33, 34, 35, 36, 172, 173, 174, 175, 176, 177, 178, 179, 180] rfl (by decide +kernel)
set_option maxRecDepth 20000 in
theorem gX4_accept_X4_word : GoodIn wsX4_accept (wsV RX4 53 RX4 yX4_word wsX4_word) := goodIn_app (goodIn_of _ (by decide +kernel)) ggX4_accept_X4_word
set_option maxRecDepth 20000 in
theorem ggX4_accept_X4_sourceList : GoodIn wsX4_accept wsX4_sourceList := goodIn_r _ [101, 102, 103, 104, 24, 105, 106, 107, 108, 109, 26, 27, 28, 21, 22, 23, 25, 5, 29, 30, 31, 32, 33, 34, 35, 36, 110, 111, 112, 113, 1, 94, 95, 96, 97, 3, 4, 114, 115, 116, 117, 2, 118, 119, 120, 121, 122, 123, 124, 125, 172, 173, 174, 175, 176, 177, 178, 179, 180, 181, 182, 183, 184, 185, 186, 187, 188, 189, 190] rfl (by decide +kernel)
set_option maxRecDepth 20000 in
theorem gX4_accept_X4_sourceList : GoodIn wsX4_accept (wsV RX4 57 RX4 yX4_sourceList wsX4_sourceList) := goodIn_app (goodIn_of _ (by decide +kernel)) ggX4_accept_X4_sourceList
set_option maxRecDepth 20000 in
theorem ggX4_accept_X4_lines : GoodIn wsX4_accept wsX4_lines := goodIn_r _ [129, 29, 26, 2, 41, 42, 43, 24, 44, 5, 27, 28, 45, 46, 47, 48, 49, 50, 51, 52, 53, 54, 55, 56, 57, 58, 59, 60, 61, 62, 63, 64, 65, 66, 67, 68, 69, 70, 71, 72, 73, 74, 75, 76, 77, 78, 79, 80, 81, 82, 83, 84, 85, 86, 87, 88, 89, 90, 91, 92, 93, 94, 95, 96, 97, 3, 4, 21, 22, 23, 25, 30, 31, 32, 33, 34, 35, 36, 106, 107, 108, 109, 130, 131, 132, 133, 1, 114, 115, 116, 117, 134, 135, 136, 137, 138, 139, 140, 141, 142, 122, 123, 124, 125, 102, 103, 104, 105, 143, 144, 145, 146, 147, 148, 149, 150, 151, 118, 119, 120, 121, 152, 153, 154, 155, 156, 157, 158, 9, 159, 11, 160, 161, 162, 163, 12, 172, 173, 174, 175, 176, 177, 178, 179, 180, 181, 182, 183, 184, 185, 186, 187, 188, 189, 190] rfl (by decide +kernel)
set_option maxRecDepth 20000 in
theorem gX4_accept_X4_lines : GoodIn wsX4_accept (wsV RX4 63 RX4 yX4_lines wsX4_lines) := goodIn_app (goodIn_of _ (by decide +kernel)) ggX4_accept_X4_lines
set_option maxRecDepth 20000 in
theorem ggX4_accept_X4_outputList : GoodIn wsX4_accept wsX4_outputList := goodIn_r _ [167, 26, 1, 2, 29, 102, 103, 104, 24, 105, 106, 107, 108, 109, 27, 28, 21, 22, 23, 25, 5, 30, 31, 32, 33, 34, 35, 36, 148, 149, 150, 151, 94, 95, 96, 97, 3, 4, 122, 123, 124, 125, 172, 173, 174, 175, 176, 177, 178, 179, 180, 181, 182, 183, 184, 185, 186, 187, 188, 189, 190] rfl (by decide +kernel)
set_option maxRecDepth 20000 in
theorem gX4_accept_X4_outputList : GoodIn wsX4_accept (wsV RX4 69 RX4 yX4_outputList wsX4_outputList) := goodIn_app (goodIn_of _ (by decide +kernel)) ggX4_accept_X4_outputList
set_option maxRecDepth 20000 in
theorem ggX4_accept_X4_tapeEnd : GoodIn wsX4_accept wsX4_tapeEnd := goodIn_r _ [171, 26, 27, 94, 95, 96, 24, 97, 3, 4, 172, 173, 174, 175, 176, 177, 178, 179, 180] rfl (by decide +kernel)
set_option maxRecDepth 20000 in
theorem gX4_accept_X4_tapeEnd : GoodIn wsX4_accept (wsV RX4 72 RX4 yX4_tapeEnd wsX4_tapeEnd) := goodIn_app (goodIn_of _ (by decide +kernel)) ggX4_accept_X4_tapeEnd
set_option maxRecDepth 20000 in
theorem ggX4_advance_X4_isWordByte : GoodIn wsX4_advance wsX4_isWordByte := goodIn_r _ [9] rfl (by decide +kernel)
set_option maxRecDepth 20000 in
theorem gX4_advance_X4_isWordByte : GoodIn wsX4_advance (va_wsS RX4 78 yX4_isWordByte wsX4_isWordByte) := goodIn_app (goodIn_of _ (by decide +kernel)) ggX4_advance_X4_isWordByte
set_option maxRecDepth 20000 in
theorem ggX4_advance_X4_nameHere : GoodIn wsX4_advance wsX4_nameHere := goodIn_r _ [13, 1, 2, 4, 14, 15, 16, 17, 18, 19, 20, 21, 22] rfl (by decide +kernel)
set_option maxRecDepth 20000 in
theorem gX4_advance_X4_nameHere : GoodIn wsX4_advance (wsV RX4 82 RX4 yX4_nameHere wsX4_nameHere) := goodIn_app (goodIn_of _ (by decide +kernel)) ggX4_advance_X4_nameHere
set_option maxRecDepth 20000 in
theorem ggX4_isWord_J0_length_8abf5 : GoodIn wsX4_isWord wsJ0_length_8abf5 := goodIn_r _ [9, 10, 11, 12, 13, 8, 14, 15, 16] rfl (by decide +kernel)
set_option maxRecDepth 20000 in
theorem gX4_isWord_J0_length_8abf5 : GoodIn wsX4_isWord (wsV RX4 89 RJ0 yJ0_length_8abf5 wsJ0_length_8abf5) := goodIn_app (goodIn_of _ (by decide +kernel)) ggX4_isWord_J0_length_8abf5
set_option maxRecDepth 20000 in
theorem ggX4_isWord_J0_charAt_5068e : GoodIn wsX4_isWord wsJ0_charAt_5068e := goodIn_r _ [20, 10, 21, 22, 23, 8, 24, 15, 16, 25, 26, 27, 28, 29, 30, 31, 32, 33, 34, 35, 36, 37, 38, 39, 40, 41, 42, 43, 44, 45, 46, 47, 48, 49, 50, 51, 52, 53] rfl (by decide +kernel)
set_option maxRecDepth 20000 in
theorem gX4_isWord_J0_charAt_5068e : GoodIn wsX4_isWord (wsV RX4 93 RJ0 yJ0_charAt_5068e wsJ0_charAt_5068e) := goodIn_app (goodIn_of _ (by decide +kernel)) ggX4_isWord_J0_charAt_5068e
set_option maxRecDepth 20000 in
theorem ggX4_word_X4_isWord : GoodIn wsX4_word wsX4_isWord := goodIn_r _ [6, 7, 1, 8, 9, 10, 11, 12, 13, 14, 15, 16, 17, 18, 19, 20, 21, 22, 23, 24, 25, 26, 27, 28, 29, 30, 31, 32, 33, 34, 35, 36, 37, 38, 39, 40, 41, 42, 43, 44, 45, 46, 47, 48, 49, 50, 51, 52, 53, 54, 55, 56, 57, 58, 77, 78, 79, 80, 81, 82, 83, 84, 85] rfl (by decide +kernel)
set_option maxRecDepth 20000 in
theorem gX4_word_X4_isWord : GoodIn wsX4_word (wsV RX4 97 RX4 yX4_isWord wsX4_isWord) := goodIn_app (goodIn_of _ (by decide +kernel)) ggX4_word_X4_isWord
set_option maxRecDepth 20000 in
theorem ggX4_word_X4_refuse : GoodIn wsX4_word wsX4_refuse := goodIn_r _ [62, 63, 64, 77, 78, 79, 80, 81, 82, 83, 84, 85] rfl (by decide +kernel)
set_option maxRecDepth 20000 in
theorem gX4_word_X4_refuse : GoodIn wsX4_word (wsV RX4 100 RX4 yX4_refuse wsX4_refuse) := goodIn_app (goodIn_of _ (by decide +kernel)) ggX4_word_X4_refuse
set_option maxRecDepth 20000 in
theorem ggX4_word_X4_advance : GoodIn wsX4_word wsX4_advance := goodIn_r _ [68, 7, 1, 8, 9, 69, 70, 71, 5, 72, 73, 74, 75, 76, 77, 78, 79, 80, 81, 82, 83, 84, 85] rfl (by decide +kernel)
set_option maxRecDepth 20000 in
theorem gX4_word_X4_advance : GoodIn wsX4_word (wsV RX4 48 RX4 yX4_advance wsX4_advance) := goodIn_app (goodIn_of _ (by decide +kernel)) ggX4_word_X4_advance
set_option maxRecDepth 20000 in
theorem ggX4_takes_X4_isMark : GoodIn wsX4_takes wsX4_isMark := goodIn_r _ [5, 6, 7, 8, 22, 23, 24, 25, 26, 27, 28, 29, 30] rfl (by decide +kernel)
set_option maxRecDepth 20000 in
theorem gX4_takes_X4_isMark : GoodIn wsX4_takes (wsV RX4 104 RX4 yX4_isMark wsX4_isMark) := goodIn_app (goodIn_of _ (by decide +kernel)) ggX4_takes_X4_isMark
set_option maxRecDepth 20000 in
theorem ggX4_takes_X4_advance : GoodIn wsX4_takes wsX4_advance := goodIn_r _ [12, 13, 6, 7, 8, 14, 15, 16, 4, 17, 18, 19, 20, 21, 22, 23, 24, 25, 26, 27, 28, 29, 30] rfl (by decide +kernel)
set_option maxRecDepth 20000 in
theorem gX4_takes_X4_advance : GoodIn wsX4_takes (wsV RX4 48 RX4 yX4_advance wsX4_advance) := goodIn_app (goodIn_of _ (by decide +kernel)) ggX4_takes_X4_advance
set_option maxRecDepth 20000 in
theorem ggX4_mark_X4_takes : GoodIn wsX4_mark wsX4_takes := goodIn_r _ [6, 7, 8, 9, 5, 10, 1, 11, 12, 13, 14, 15, 16, 17, 18, 19, 20, 21, 22, 23, 24, 25, 32, 33, 34, 35, 36, 37, 38, 39, 40] rfl (by decide +kernel)
set_option maxRecDepth 20000 in
theorem gX4_mark_X4_takes : GoodIn wsX4_mark (wsV RX4 108 RX4 yX4_takes wsX4_takes) := goodIn_app (goodIn_of _ (by decide +kernel)) ggX4_mark_X4_takes
set_option maxRecDepth 20000 in
theorem ggX4_mark_X4_refuse : GoodIn wsX4_mark wsX4_refuse := goodIn_r _ [29, 30, 31, 32, 33, 34, 35, 36, 37, 38, 39, 40] rfl (by decide +kernel)
set_option maxRecDepth 20000 in
theorem gX4_mark_X4_refuse : GoodIn wsX4_mark (wsV RX4 100 RX4 yX4_refuse wsX4_refuse) := goodIn_app (goodIn_of _ (by decide +kernel)) ggX4_mark_X4_refuse
set_option maxRecDepth 20000 in
theorem ggX4_tapeEnd_X4_refuse : GoodIn wsX4_tapeEnd wsX4_refuse := goodIn_r _ [7, 8, 9, 10, 11, 12, 13, 14, 15, 16, 17, 18] rfl (by decide +kernel)
set_option maxRecDepth 20000 in
theorem gX4_tapeEnd_X4_refuse : GoodIn wsX4_tapeEnd (wsV RX4 100 RX4 yX4_refuse wsX4_refuse) := goodIn_app (goodIn_of _ (by decide +kernel)) ggX4_tapeEnd_X4_refuse
set_option maxRecDepth 20000 in
theorem ggX4_isGiven_X4_refuse : GoodIn wsX4_isGiven wsX4_refuse := goodIn_r _ [8, 9, 10, 11, 12, 13, 14, 15, 16, 17, 18, 19] rfl (by decide +kernel)
set_option maxRecDepth 20000 in
theorem gX4_isGiven_X4_refuse : GoodIn wsX4_isGiven (wsV RX4 100 RX4 yX4_refuse wsX4_refuse) := goodIn_app (goodIn_of _ (by decide +kernel)) ggX4_isGiven_X4_refuse
set_option maxRecDepth 20000 in
theorem ggX4_mayGive_X4_refuse : GoodIn wsX4_mayGive wsX4_refuse := goodIn_r _ [7, 8, 9, 10, 11, 12, 13, 14, 15, 16, 17, 18] rfl (by decide +kernel)
set_option maxRecDepth 20000 in
theorem gX4_mayGive_X4_refuse : GoodIn wsX4_mayGive (wsV RX4 100 RX4 yX4_refuse wsX4_refuse) := goodIn_app (goodIn_of _ (by decide +kernel)) ggX4_mayGive_X4_refuse
set_option maxRecDepth 20000 in
theorem ggX4_sourceList_X4_takes : GoodIn wsX4_sourceList wsX4_takes := goodIn_r _ [5, 6, 7, 8, 4, 9, 10, 11, 12, 13, 14, 15, 16, 17, 18, 19, 20, 21, 22, 23, 24, 25, 50, 51, 52, 53, 54, 55, 56, 57, 58] rfl (by decide +kernel)
set_option maxRecDepth 20000 in
theorem gX4_sourceList_X4_takes : GoodIn wsX4_sourceList (wsV RX4 108 RX4 yX4_takes wsX4_takes) := goodIn_app (goodIn_of _ (by decide +kernel)) ggX4_sourceList_X4_takes
set_option maxRecDepth 20000 in
theorem ggX4_sourceList_X4_source : GoodIn wsX4_sourceList wsX4_source := goodIn_r _ [29, 18, 10, 30, 31, 32, 33, 4, 34, 35, 36, 37, 38, 39, 40, 41, 42, 43, 44, 45, 13, 14, 15, 16, 17, 11, 12, 19, 20, 21, 22, 23, 24, 25, 50, 51, 52, 53, 54, 55, 56, 57, 58, 59, 60, 61, 62, 63, 64, 65, 66, 67, 68] rfl (by decide +kernel)
set_option maxRecDepth 20000 in
theorem gX4_sourceList_X4_source : GoodIn wsX4_sourceList (wsV RX4 114 RX4 yX4_source wsX4_source) := goodIn_app (goodIn_of _ (by decide +kernel)) ggX4_sourceList_X4_source
set_option maxRecDepth 20000 in
theorem ggX4_sourceList_X4_mark : GoodIn wsX4_sourceList wsX4_mark := goodIn_r _ [49, 10, 1, 2, 3, 4, 5, 6, 7, 8, 9, 11, 12, 13, 14, 15, 16, 17, 18, 19, 20, 21, 22, 23, 24, 25, 31, 32, 33, 34, 35, 36, 50, 51, 52, 53, 54, 55, 56, 57, 58] rfl (by decide +kernel)
set_option maxRecDepth 20000 in
theorem gX4_sourceList_X4_mark : GoodIn wsX4_sourceList (wsV RX4 117 RX4 yX4_mark wsX4_mark) := goodIn_app (goodIn_of _ (by decide +kernel)) ggX4_sourceList_X4_mark
set_option maxRecDepth 20000 in
theorem ggX4_source_X4_refuse : GoodIn wsX4_source wsX4_refuse := goodIn_r _ [8, 9, 10, 34, 35, 36, 37, 38, 39, 40, 41, 42] rfl (by decide +kernel)
set_option maxRecDepth 20000 in
theorem gX4_source_X4_refuse : GoodIn wsX4_source (wsV RX4 100 RX4 yX4_refuse wsX4_refuse) := goodIn_app (goodIn_of _ (by decide +kernel)) ggX4_source_X4_refuse
set_option maxRecDepth 20000 in
theorem ggX4_source_X4_mayGive : GoodIn wsX4_source wsX4_mayGive := goodIn_r _ [14, 15, 3, 4, 5, 6, 7, 8, 9, 10, 34, 35, 36, 37, 38, 39, 40, 41, 42, 43, 44, 45, 46, 47, 48, 49, 50, 51, 52] rfl (by decide +kernel)
set_option maxRecDepth 20000 in
theorem gX4_source_X4_mayGive : GoodIn wsX4_source (wsV RX4 120 RX4 yX4_mayGive wsX4_mayGive) := goodIn_app (goodIn_of _ (by decide +kernel)) ggX4_source_X4_mayGive
set_option maxRecDepth 20000 in
theorem ggX4_source_X4_give : GoodIn wsX4_source wsX4_give := goodIn_r _ [19, 15, 3, 34, 35, 36, 37, 38, 39, 40, 41, 42, 43, 44, 45, 46, 47, 48, 49, 50, 51, 52] rfl (by decide +kernel)
set_option maxRecDepth 20000 in
theorem gX4_source_X4_give : GoodIn wsX4_source (wsV RX4 124 RX4 yX4_give wsX4_give) := goodIn_app (goodIn_of _ (by decide +kernel)) ggX4_source_X4_give
set_option maxRecDepth 20000 in
theorem ggX4_source_X4_advance : GoodIn wsX4_source wsX4_advance := goodIn_r _ [23, 24, 2, 25, 26, 1, 27, 28, 7, 29, 30, 31, 32, 33, 34, 35, 36, 37, 38, 39, 40, 41, 42] rfl (by decide +kernel)
set_option maxRecDepth 20000 in
theorem gX4_source_X4_advance : GoodIn wsX4_source (wsV RX4 48 RX4 yX4_advance wsX4_advance) := goodIn_app (goodIn_of _ (by decide +kernel)) ggX4_source_X4_advance
set_option maxRecDepth 20000 in
theorem ggX4_lines_X4_isWord : GoodIn wsX4_lines wsX4_isWord := goodIn_r _ [8, 9, 2, 10, 11, 12, 13, 14, 15, 16, 17, 18, 19, 20, 21, 22, 23, 24, 25, 26, 27, 28, 29, 30, 31, 32, 33, 34, 35, 36, 37, 38, 39, 40, 41, 42, 43, 44, 45, 46, 47, 48, 49, 50, 51, 52, 53, 54, 55, 56, 57, 58, 59, 60, 136, 137, 138, 139, 140, 141, 142, 143, 144] rfl (by decide +kernel)
set_option maxRecDepth 20000 in
theorem gX4_lines_X4_isWord : GoodIn wsX4_lines (wsV RX4 97 RX4 yX4_isWord wsX4_isWord) := goodIn_app (goodIn_of _ (by decide +kernel)) ggX4_lines_X4_isWord
set_option maxRecDepth 20000 in
theorem ggX4_lines_X4_refuse : GoodIn wsX4_lines wsX4_refuse := goodIn_r _ [64, 65, 66, 136, 137, 138, 139, 140, 141, 142, 143, 144] rfl (by decide +kernel)
set_option maxRecDepth 20000 in
theorem gX4_lines_X4_refuse : GoodIn wsX4_lines (wsV RX4 100 RX4 yX4_refuse wsX4_refuse) := goodIn_app (goodIn_of _ (by decide +kernel)) ggX4_lines_X4_refuse
set_option maxRecDepth 20000 in
theorem ggX4_lines_X4_advance : GoodIn wsX4_lines wsX4_advance := goodIn_r _ [70, 9, 2, 10, 11, 1, 71, 72, 7, 73, 74, 75, 76, 77, 136, 137, 138, 139, 140, 141, 142, 143, 144] rfl (by decide +kernel)
set_option maxRecDepth 20000 in
theorem gX4_lines_X4_advance : GoodIn wsX4_lines (wsV RX4 48 RX4 yX4_advance wsX4_advance) := goodIn_app (goodIn_of _ (by decide +kernel)) ggX4_lines_X4_advance
set_option maxRecDepth 20000 in
theorem ggX4_lines_X4_isMark : GoodIn wsX4_lines wsX4_isMark := goodIn_r _ [81, 2, 10, 11, 136, 137, 138, 139, 140, 141, 142, 143, 144] rfl (by decide +kernel)
set_option maxRecDepth 20000 in
theorem gX4_lines_X4_isMark : GoodIn wsX4_lines (wsV RX4 104 RX4 yX4_isMark wsX4_isMark) := goodIn_app (goodIn_of _ (by decide +kernel)) ggX4_lines_X4_isMark
set_option maxRecDepth 20000 in
theorem ggX4_lines_X4_gateLine : GoodIn wsX4_lines wsX4_gateLine := goodIn_r _ [85, 86, 87, 88, 89, 7, 90, 3, 61, 62, 63, 64, 65, 66, 67, 68, 69, 70, 9, 2, 10, 11, 1, 71, 72, 73, 74, 75, 76, 77, 91, 92, 93, 94, 95, 96, 97, 98, 99, 24, 25, 26, 15, 27, 17, 28, 29, 30, 31, 22, 23, 32, 33, 34, 35, 36, 37, 38, 39, 40, 41, 42, 43, 44, 45, 46, 47, 48, 49, 50, 51, 52, 53, 54, 55, 56, 57, 58, 59, 60, 100, 101, 102, 103, 104, 105, 106, 107, 78, 79, 80, 81, 108, 109, 110, 111, 112, 113, 114, 115, 116, 117, 118, 119, 120, 136, 137, 138, 139, 140, 141, 142, 143, 144, 145, 146, 147, 148, 149, 150, 151, 152, 153, 154] rfl (by decide +kernel)
set_option maxRecDepth 20000 in
theorem gX4_lines_X4_gateLine : GoodIn wsX4_lines (wsV RX4 134 RX4 yX4_gateLine wsX4_gateLine) := goodIn_app (goodIn_of _ (by decide +kernel)) ggX4_lines_X4_gateLine
set_option maxRecDepth 20000 in
theorem ggX4_lines_X4_nextLine : GoodIn wsX4_lines wsX4_nextLine := goodIn_r _ [124, 2, 86, 3, 1, 78, 79, 80, 7, 81, 10, 11, 61, 62, 63, 64, 65, 66, 125, 126, 127, 128, 129, 130, 131, 132, 133, 134, 135, 67, 68, 69, 70, 9, 71, 72, 73, 74, 75, 76, 77, 100, 101, 102, 103, 104, 105, 106, 107, 113, 114, 115, 116, 136, 137, 138, 139, 140, 141, 142, 143, 144, 145, 146, 147, 148, 149, 150, 151, 152, 153, 154] rfl (by decide +kernel)
set_option maxRecDepth 20000 in
theorem gX4_lines_X4_nextLine : GoodIn wsX4_lines (wsV RX4 137 RX4 yX4_nextLine wsX4_nextLine) := goodIn_app (goodIn_of _ (by decide +kernel)) ggX4_lines_X4_nextLine
set_option maxRecDepth 20000 in
theorem ggX4_gateLine_X4_mayGive : GoodIn wsX4_gateLine wsX4_mayGive := goodIn_r _ [6, 7, 1, 8, 9, 10, 5, 11, 12, 13, 105, 106, 107, 108, 109, 110, 111, 112, 113, 114, 115, 116, 117, 118, 119, 120, 121, 122, 123] rfl (by decide +kernel)
set_option maxRecDepth 20000 in
theorem gX4_gateLine_X4_mayGive : GoodIn wsX4_gateLine (wsV RX4 120 RX4 yX4_mayGive wsX4_mayGive) := goodIn_app (goodIn_of _ (by decide +kernel)) ggX4_gateLine_X4_mayGive
set_option maxRecDepth 20000 in
theorem ggX4_gateLine_X4_advance : GoodIn wsX4_gateLine wsX4_advance := goodIn_r _ [17, 18, 19, 20, 21, 22, 23, 24, 5, 25, 26, 27, 28, 29, 105, 106, 107, 108, 109, 110, 111, 112, 113] rfl (by decide +kernel)
set_option maxRecDepth 20000 in
theorem gX4_gateLine_X4_advance : GoodIn wsX4_gateLine (wsV RX4 48 RX4 yX4_advance wsX4_advance) := goodIn_app (goodIn_of _ (by decide +kernel)) ggX4_gateLine_X4_advance
set_option maxRecDepth 20000 in
theorem ggX4_gateLine_X4_operationHere : GoodIn wsX4_gateLine wsX4_operationHere := goodIn_r _ [33, 19, 20, 21, 34, 8, 9, 10, 5, 11, 12, 13, 35, 36, 37, 38, 18, 39, 40, 41, 42, 43, 44, 45, 46, 47, 48, 49, 50, 51, 52, 53, 54, 55, 56, 57, 58, 59, 60, 61, 62, 63, 64, 65, 66, 67, 68, 69, 70, 71, 72, 73, 74, 75, 76, 77, 78, 79, 105, 106, 107, 108, 109, 110, 111, 112, 113] rfl (by decide +kernel)
set_option maxRecDepth 20000 in
theorem gX4_gateLine_X4_operationHere : GoodIn wsX4_gateLine (wsV RX4 140 RX4 yX4_operationHere wsX4_operationHere) := goodIn_app (goodIn_of _ (by decide +kernel)) ggX4_gateLine_X4_operationHere
set_option maxRecDepth 20000 in
theorem ggX4_gateLine_X4_mark : GoodIn wsX4_gateLine wsX4_mark := goodIn_r _ [83, 19, 84, 85, 86, 5, 87, 88, 89, 90, 91, 20, 21, 14, 15, 16, 17, 18, 22, 23, 24, 25, 26, 27, 28, 29, 8, 9, 10, 11, 12, 13, 105, 106, 107, 108, 109, 110, 111, 112, 113] rfl (by decide +kernel)
set_option maxRecDepth 20000 in
theorem gX4_gateLine_X4_mark : GoodIn wsX4_gateLine (wsV RX4 117 RX4 yX4_mark wsX4_mark) := goodIn_app (goodIn_of _ (by decide +kernel)) ggX4_gateLine_X4_mark
set_option maxRecDepth 20000 in
theorem ggX4_gateLine_X4_lookedList : GoodIn wsX4_gateLine wsX4_lookedList := goodIn_r _ [95, 34, 96, 19, 1, 7, 22, 97, 98, 99, 5, 100, 8, 9, 10, 11, 12, 13, 14, 15, 16, 17, 18, 20, 21, 23, 24, 25, 26, 27, 28, 29, 84, 85, 86, 87, 88, 89, 90, 91, 105, 106, 107, 108, 109, 110, 111, 112, 113, 114, 115, 116, 117, 118, 119, 120, 121, 122, 123] rfl (by decide +kernel)
set_option maxRecDepth 20000 in
theorem gX4_gateLine_X4_lookedList : GoodIn wsX4_gateLine (wsV RX4 143 RX4 yX4_lookedList wsX4_lookedList) := goodIn_app (goodIn_of _ (by decide +kernel)) ggX4_gateLine_X4_lookedList
set_option maxRecDepth 20000 in
theorem ggX4_gateLine_X4_give : GoodIn wsX4_gateLine wsX4_give := goodIn_r _ [104, 7, 1, 105, 106, 107, 108, 109, 110, 111, 112, 113, 114, 115, 116, 117, 118, 119, 120, 121, 122, 123] rfl (by decide +kernel)
set_option maxRecDepth 20000 in
theorem gX4_gateLine_X4_give : GoodIn wsX4_gateLine (wsV RX4 124 RX4 yX4_give wsX4_give) := goodIn_app (goodIn_of _ (by decide +kernel)) ggX4_gateLine_X4_give
set_option maxRecDepth 20000 in
theorem ggX4_operationHere_X4_refuse : GoodIn wsX4_operationHere wsX4_refuse := goodIn_r _ [9, 10, 11, 58, 59, 60, 61, 62, 63, 64, 65, 66] rfl (by decide +kernel)
set_option maxRecDepth 20000 in
theorem gX4_operationHere_X4_refuse : GoodIn wsX4_operationHere (wsV RX4 100 RX4 yX4_refuse wsX4_refuse) := goodIn_app (goodIn_of _ (by decide +kernel)) ggX4_operationHere_X4_refuse
set_option maxRecDepth 20000 in
theorem ggX4_operationHere_X4_isOperation : GoodIn wsX4_operationHere wsX4_isOperation := goodIn_r _ [15, 16, 1, 3, 17, 18, 19, 20, 21, 22, 23, 24, 25, 26, 27, 28, 29, 30, 31, 32, 33, 34, 35, 36, 37, 38, 39, 40, 41, 42, 43, 44, 45, 46, 47, 48, 49, 50, 51, 52, 53, 54, 55, 56, 57, 58, 59, 60, 61, 62, 63, 64, 65, 66] rfl (by decide +kernel)
set_option maxRecDepth 20000 in
theorem gX4_operationHere_X4_isOperation : GoodIn wsX4_operationHere (wsV RX4 152 RX4 yX4_isOperation wsX4_isOperation) := goodIn_app (goodIn_of _ (by decide +kernel)) ggX4_operationHere_X4_isOperation
set_option maxRecDepth 20000 in
theorem ggX4_isOperation_J0_charAt_5068e : GoodIn wsX4_isOperation wsJ0_charAt_5068e := goodIn_r _ [8, 9, 10, 11, 12, 7, 13, 14, 15, 16, 17, 18, 19, 20, 21, 22, 23, 24, 25, 26, 27, 28, 29, 30, 31, 32, 33, 34, 35, 36, 37, 38, 39, 40, 41, 42, 43, 44] rfl (by decide +kernel)
set_option maxRecDepth 20000 in
theorem gX4_isOperation_J0_charAt_5068e : GoodIn wsX4_isOperation (wsV RX4 93 RJ0 yJ0_charAt_5068e wsJ0_charAt_5068e) := goodIn_app (goodIn_of _ (by decide +kernel)) ggX4_isOperation_J0_charAt_5068e
set_option maxRecDepth 20000 in
theorem ggX4_lookedList_X4_isGiven : GoodIn wsX4_lookedList wsX4_isGiven := goodIn_r _ [11, 6, 3, 5, 12, 13, 14, 10, 15, 16, 17, 40, 41, 42, 43, 44, 45, 46, 47, 48] rfl (by decide +kernel)
set_option maxRecDepth 20000 in
theorem gX4_lookedList_X4_isGiven : GoodIn wsX4_lookedList (wsV RX4 160 RX4 yX4_isGiven wsX4_isGiven) := goodIn_app (goodIn_of _ (by decide +kernel)) ggX4_lookedList_X4_isGiven
set_option maxRecDepth 20000 in
theorem ggX4_lookedList_X4_refuse : GoodIn wsX4_lookedList wsX4_refuse := goodIn_r _ [15, 16, 17, 40, 41, 42, 43, 44, 45, 46, 47, 48] rfl (by decide +kernel)
set_option maxRecDepth 20000 in
theorem gX4_lookedList_X4_refuse : GoodIn wsX4_lookedList (wsV RX4 100 RX4 yX4_refuse wsX4_refuse) := goodIn_app (goodIn_of _ (by decide +kernel)) ggX4_lookedList_X4_refuse
set_option maxRecDepth 20000 in
theorem ggX4_lookedList_X4_advance : GoodIn wsX4_lookedList wsX4_advance := goodIn_r _ [21, 22, 3, 23, 24, 6, 25, 26, 10, 27, 28, 29, 30, 31, 40, 41, 42, 43, 44, 45, 46, 47, 48] rfl (by decide +kernel)
set_option maxRecDepth 20000 in
theorem gX4_lookedList_X4_advance : GoodIn wsX4_lookedList (wsV RX4 48 RX4 yX4_advance wsX4_advance) := goodIn_app (goodIn_of _ (by decide +kernel)) ggX4_lookedList_X4_advance
set_option maxRecDepth 20000 in
theorem ggX4_lookedList_X4_takes : GoodIn wsX4_lookedList wsX4_takes := goodIn_r _ [35, 36, 37, 38, 10, 39, 3, 23, 24, 18, 19, 20, 21, 22, 6, 25, 26, 27, 28, 29, 30, 31, 40, 41, 42, 43, 44, 45, 46, 47, 48] rfl (by decide +kernel)
set_option maxRecDepth 20000 in
theorem gX4_lookedList_X4_takes : GoodIn wsX4_lookedList (wsV RX4 108 RX4 yX4_takes wsX4_takes) := goodIn_app (goodIn_of _ (by decide +kernel)) ggX4_lookedList_X4_takes
set_option maxRecDepth 20000 in
theorem ggX4_nextLine_X4_isMark : GoodIn wsX4_nextLine wsX4_isMark := goodIn_r _ [9, 1, 10, 11, 53, 54, 55, 56, 57, 58, 59, 60, 61] rfl (by decide +kernel)
set_option maxRecDepth 20000 in
theorem gX4_nextLine_X4_isMark : GoodIn wsX4_nextLine (wsV RX4 104 RX4 yX4_isMark wsX4_isMark) := goodIn_app (goodIn_of _ (by decide +kernel)) ggX4_nextLine_X4_isMark
set_option maxRecDepth 20000 in
theorem ggX4_nextLine_X4_refuse : GoodIn wsX4_nextLine wsX4_refuse := goodIn_r _ [15, 16, 17, 53, 54, 55, 56, 57, 58, 59, 60, 61] rfl (by decide +kernel)
set_option maxRecDepth 20000 in
theorem gX4_nextLine_X4_refuse : GoodIn wsX4_nextLine (wsV RX4 100 RX4 yX4_refuse wsX4_refuse) := goodIn_app (goodIn_of _ (by decide +kernel)) ggX4_nextLine_X4_refuse
set_option maxRecDepth 20000 in
theorem ggX4_nextLine_X2_isFlop : GoodIn wsX4_nextLine wsX2_isFlop := goodIn_r _ [22, 23, 24, 25, 26, 21, 27, 28, 62, 63, 64, 65, 66, 67, 68, 69, 70, 71] rfl (by decide +kernel)
set_option maxRecDepth 20000 in
theorem gX4_nextLine_X2_isFlop : GoodIn wsX4_nextLine (wsV RX4 169 RX2 yX2_isFlop wsX2_isFlop) := goodIn_app (goodIn_of _ (by decide +kernel)) ggX4_nextLine_X2_isFlop
set_option maxRecDepth 20000 in
theorem ggX4_nextLine_X4_advance : GoodIn wsX4_nextLine wsX4_advance := goodIn_r _ [32, 33, 1, 10, 11, 4, 34, 35, 8, 36, 37, 38, 39, 40, 53, 54, 55, 56, 57, 58, 59, 60, 61] rfl (by decide +kernel)
set_option maxRecDepth 20000 in
theorem gX4_nextLine_X4_advance : GoodIn wsX4_nextLine (wsV RX4 48 RX4 yX4_advance wsX4_advance) := goodIn_app (goodIn_of _ (by decide +kernel)) ggX4_nextLine_X4_advance
set_option maxRecDepth 20000 in
theorem ggX4_nextLine_X4_mark : GoodIn wsX4_nextLine wsX4_mark := goodIn_r _ [44, 1, 45, 46, 47, 8, 48, 5, 6, 7, 9, 10, 11, 29, 30, 31, 32, 33, 4, 34, 35, 36, 37, 38, 39, 40, 12, 13, 14, 15, 16, 17, 53, 54, 55, 56, 57, 58, 59, 60, 61] rfl (by decide +kernel)
set_option maxRecDepth 20000 in
theorem gX4_nextLine_X4_mark : GoodIn wsX4_nextLine (wsV RX4 117 RX4 yX4_mark wsX4_mark) := goodIn_app (goodIn_of _ (by decide +kernel)) ggX4_nextLine_X4_mark
set_option maxRecDepth 20000 in
theorem ggX4_nextLine_X4_isGiven : GoodIn wsX4_nextLine wsX4_isGiven := goodIn_r _ [52, 4, 1, 3, 12, 13, 14, 8, 15, 16, 17, 53, 54, 55, 56, 57, 58, 59, 60, 61] rfl (by decide +kernel)
set_option maxRecDepth 20000 in
theorem gX4_nextLine_X4_isGiven : GoodIn wsX4_nextLine (wsV RX4 160 RX4 yX4_isGiven wsX4_isGiven) := goodIn_app (goodIn_of _ (by decide +kernel)) ggX4_nextLine_X4_isGiven
set_option maxRecDepth 20000 in
theorem ggX4_outputList_X4_takes : GoodIn wsX4_outputList wsX4_takes := goodIn_r _ [9, 10, 11, 12, 8, 13, 1, 14, 15, 16, 17, 18, 19, 20, 4, 21, 22, 23, 24, 25, 26, 27, 42, 43, 44, 45, 46, 47, 48, 49, 50] rfl (by decide +kernel)
set_option maxRecDepth 20000 in
theorem gX4_outputList_X4_takes : GoodIn wsX4_outputList (wsV RX4 108 RX4 yX4_takes wsX4_takes) := goodIn_app (goodIn_of _ (by decide +kernel)) ggX4_outputList_X4_takes
set_option maxRecDepth 20000 in
theorem ggX4_outputList_X4_isGiven : GoodIn wsX4_outputList wsX4_isGiven := goodIn_r _ [31, 4, 1, 3, 32, 33, 34, 8, 35, 36, 37, 42, 43, 44, 45, 46, 47, 48, 49, 50] rfl (by decide +kernel)
set_option maxRecDepth 20000 in
theorem gX4_outputList_X4_isGiven : GoodIn wsX4_outputList (wsV RX4 160 RX4 yX4_isGiven wsX4_isGiven) := goodIn_app (goodIn_of _ (by decide +kernel)) ggX4_outputList_X4_isGiven
set_option maxRecDepth 20000 in
theorem ggX4_outputList_X4_refuse : GoodIn wsX4_outputList wsX4_refuse := goodIn_r _ [35, 36, 37, 42, 43, 44, 45, 46, 47, 48, 49, 50] rfl (by decide +kernel)
set_option maxRecDepth 20000 in
theorem gX4_outputList_X4_refuse : GoodIn wsX4_outputList (wsV RX4 100 RX4 yX4_refuse wsX4_refuse) := goodIn_app (goodIn_of _ (by decide +kernel)) ggX4_outputList_X4_refuse
set_option maxRecDepth 20000 in
theorem ggX4_outputList_X4_advance : GoodIn wsX4_outputList wsX4_advance := goodIn_r _ [19, 20, 1, 14, 15, 4, 21, 22, 8, 23, 24, 25, 26, 27, 42, 43, 44, 45, 46, 47, 48, 49, 50] rfl (by decide +kernel)
set_option maxRecDepth 20000 in
theorem gX4_outputList_X4_advance : GoodIn wsX4_outputList (wsV RX4 48 RX4 yX4_advance wsX4_advance) := goodIn_app (goodIn_of _ (by decide +kernel)) ggX4_outputList_X4_advance
set_option maxRecDepth 20000 in
theorem ggX4_outputList_X4_mark : GoodIn wsX4_outputList wsX4_mark := goodIn_r _ [41, 1, 5, 6, 7, 8, 9, 10, 11, 12, 13, 14, 15, 16, 17, 18, 19, 20, 4, 21, 22, 23, 24, 25, 26, 27, 32, 33, 34, 35, 36, 37, 42, 43, 44, 45, 46, 47, 48, 49, 50] rfl (by decide +kernel)
set_option maxRecDepth 20000 in
theorem gX4_outputList_X4_mark : GoodIn wsX4_outputList (wsV RX4 117 RX4 yX4_mark wsX4_mark) := goodIn_app (goodIn_of _ (by decide +kernel)) ggX4_outputList_X4_mark
