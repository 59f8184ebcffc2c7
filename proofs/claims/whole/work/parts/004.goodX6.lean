set_option maxRecDepth 20000 in
theorem ggX6_peek_X6_byteAt : GoodIn wsX6_peek wsX6_byteAt := goodIn_r _ [8, 2, 3, 9, 10, 11, 12, 13, 14, 15, 16, 17, 18, 19, 20, 21, 22, 23, 24, 25, 26, 27, 28, 29, 30, 31, 32, 33, 34, 35, 36, 37, 38, 39, 40, 41, 42, 43, 44, 45, 46, 47, 48, 49] rfl (by decide +kernel)
set_option maxRecDepth 20000 in
theorem gX6_peek_X6_byteAt : GoodIn wsX6_peek (wsV RX6 90 RX6 yX6_byteAt wsX6_byteAt) := goodIn_app (goodIn_of _ (by decide +kernel)) ggX6_peek_X6_byteAt
set_option maxRecDepth 20000 in
theorem ggX6_tokenSize_X6_byteAt : GoodIn wsX6_tokenSize wsX6_byteAt := goodIn_r _ [6, 7, 8, 15, 16, 17, 18, 19, 20, 21, 22, 23, 24, 25, 26, 27, 28, 29, 30, 31, 32, 33, 34, 35, 36, 37, 38, 39, 40, 41, 42, 43, 44, 45, 46, 47, 48, 49, 50, 51, 52, 53, 54, 55] rfl (by decide +kernel)
set_option maxRecDepth 20000 in
theorem gX6_tokenSize_X6_byteAt : GoodIn wsX6_tokenSize (wsV RX6 90 RX6 yX6_byteAt wsX6_byteAt) := goodIn_app (goodIn_of _ (by decide +kernel)) ggX6_tokenSize_X6_byteAt
set_option maxRecDepth 20000 in
theorem ggX6_tokenSize_X6_isLetter : GoodIn wsX6_tokenSize wsX6_isLetter := goodIn_r _ [11] rfl (by decide +kernel)
set_option maxRecDepth 20000 in
theorem gX6_tokenSize_X6_isLetter : GoodIn wsX6_tokenSize (va_wsS RX6 94 yX6_isLetter wsX6_isLetter) := goodIn_app (goodIn_of _ (by decide +kernel)) ggX6_tokenSize_X6_isLetter
set_option maxRecDepth 20000 in
theorem ggX6_tokenSize_X6_isFigure : GoodIn wsX6_tokenSize wsX6_isFigure := goodIn_r _ [14] rfl (by decide +kernel)
set_option maxRecDepth 20000 in
theorem gX6_tokenSize_X6_isFigure : GoodIn wsX6_tokenSize (va_wsS RX6 98 yX6_isFigure wsX6_isFigure) := goodIn_app (goodIn_of _ (by decide +kernel)) ggX6_tokenSize_X6_isFigure
set_option maxRecDepth 20000 in
theorem ggX6_token_X6_peek : GoodIn wsX6_token wsX6_peek := goodIn_r _ [6, 1, 7, 8, 9, 10, 11, 5, 12, 23, 24, 25, 26, 27, 28, 29, 30, 31, 32, 33, 34, 35, 36, 37, 38, 39, 40, 41, 42, 43, 44, 45, 46, 47, 48, 49, 50, 51, 52, 53, 54, 55, 56, 57, 58, 59, 60, 61, 62, 63] rfl (by decide +kernel)
set_option maxRecDepth 20000 in
theorem gX6_token_X6_peek : GoodIn wsX6_token (wsV RX6 101 RX6 yX6_peek wsX6_peek) := goodIn_app (goodIn_of _ (by decide +kernel)) ggX6_token_X6_peek
set_option maxRecDepth 20000 in
theorem ggX6_token_X6_tokenSize : GoodIn wsX6_token wsX6_tokenSize := goodIn_r _ [16, 1, 9, 10, 11, 5, 12, 7, 8, 17, 18, 19, 20, 21, 22, 23, 24, 25, 26, 27, 28, 29, 30, 31, 32, 33, 34, 35, 36, 37, 38, 39, 40, 41, 42, 43, 44, 45, 46, 47, 48, 49, 50, 51, 52, 53, 54, 55, 56, 57, 58, 59, 60, 61, 62, 63] rfl (by decide +kernel)
set_option maxRecDepth 20000 in
theorem gX6_token_X6_tokenSize : GoodIn wsX6_token (wsV RX6 105 RX6 yX6_tokenSize wsX6_tokenSize) := goodIn_app (goodIn_of _ (by decide +kernel)) ggX6_token_X6_tokenSize
set_option maxRecDepth 20000 in
theorem ggX6_token_X6_byteAt : GoodIn wsX6_token wsX6_byteAt := goodIn_r _ [12, 7, 8, 23, 24, 25, 26, 27, 28, 29, 30, 31, 32, 33, 34, 35, 36, 37, 38, 39, 40, 41, 42, 43, 44, 45, 46, 47, 48, 49, 50, 51, 52, 53, 54, 55, 56, 57, 58, 59, 60, 61, 62, 63] rfl (by decide +kernel)
set_option maxRecDepth 20000 in
theorem gX6_token_X6_byteAt : GoodIn wsX6_token (wsV RX6 90 RX6 yX6_byteAt wsX6_byteAt) := goodIn_app (goodIn_of _ (by decide +kernel)) ggX6_token_X6_byteAt
set_option maxRecDepth 20000 in
theorem ggX6_isName_X6_peek : GoodIn wsX6_isName wsX6_peek := goodIn_r _ [6, 1, 7, 8, 9, 10, 11, 5, 12, 23, 24, 25, 26, 27, 28, 29, 30, 31, 32, 33, 34, 35, 36, 37, 38, 39, 40, 41, 42, 43, 44, 45, 46, 47, 48, 49, 50, 51, 52, 53, 54, 55, 56, 57, 58, 59, 60, 61, 62, 63] rfl (by decide +kernel)
set_option maxRecDepth 20000 in
theorem gX6_isName_X6_peek : GoodIn wsX6_isName (wsV RX6 101 RX6 yX6_peek wsX6_peek) := goodIn_app (goodIn_of _ (by decide +kernel)) ggX6_isName_X6_peek
set_option maxRecDepth 20000 in
theorem ggX6_isName_X6_tokenSize : GoodIn wsX6_isName wsX6_tokenSize := goodIn_r _ [16, 1, 9, 10, 11, 5, 12, 7, 8, 17, 18, 19, 20, 21, 22, 23, 24, 25, 26, 27, 28, 29, 30, 31, 32, 33, 34, 35, 36, 37, 38, 39, 40, 41, 42, 43, 44, 45, 46, 47, 48, 49, 50, 51, 52, 53, 54, 55, 56, 57, 58, 59, 60, 61, 62, 63] rfl (by decide +kernel)
set_option maxRecDepth 20000 in
theorem gX6_isName_X6_tokenSize : GoodIn wsX6_isName (wsV RX6 105 RX6 yX6_tokenSize wsX6_tokenSize) := goodIn_app (goodIn_of _ (by decide +kernel)) ggX6_isName_X6_tokenSize
set_option maxRecDepth 20000 in
theorem ggX6_isName_X6_isLetter : GoodIn wsX6_isName wsX6_isLetter := goodIn_r _ [19] rfl (by decide +kernel)
set_option maxRecDepth 20000 in
theorem gX6_isName_X6_isLetter : GoodIn wsX6_isName (va_wsS RX6 94 yX6_isLetter wsX6_isLetter) := goodIn_app (goodIn_of _ (by decide +kernel)) ggX6_isName_X6_isLetter
set_option maxRecDepth 20000 in
theorem ggX6_isName_X6_byteAt : GoodIn wsX6_isName wsX6_byteAt := goodIn_r _ [12, 7, 8, 23, 24, 25, 26, 27, 28, 29, 30, 31, 32, 33, 34, 35, 36, 37, 38, 39, 40, 41, 42, 43, 44, 45, 46, 47, 48, 49, 50, 51, 52, 53, 54, 55, 56, 57, 58, 59, 60, 61, 62, 63] rfl (by decide +kernel)
set_option maxRecDepth 20000 in
theorem gX6_isName_X6_byteAt : GoodIn wsX6_isName (wsV RX6 90 RX6 yX6_byteAt wsX6_byteAt) := goodIn_app (goodIn_of _ (by decide +kernel)) ggX6_isName_X6_byteAt
set_option maxRecDepth 20000 in
theorem ggX6_isName_X6_isFigure : GoodIn wsX6_isName wsX6_isFigure := goodIn_r _ [22] rfl (by decide +kernel)
set_option maxRecDepth 20000 in
theorem gX6_isName_X6_isFigure : GoodIn wsX6_isName (va_wsS RX6 98 yX6_isFigure wsX6_isFigure) := goodIn_app (goodIn_of _ (by decide +kernel)) ggX6_isName_X6_isFigure
set_option maxRecDepth 20000 in
theorem ggX6_want_X6_peek : GoodIn wsX6_want wsX6_peek := goodIn_r _ [7, 2, 8, 9, 10, 11, 12, 6, 13, 19, 20, 21, 22, 23, 24, 25, 26, 27, 28, 29, 30, 31, 32, 33, 34, 35, 36, 37, 38, 39, 40, 41, 42, 43, 44, 45, 46, 47, 48, 49, 50, 51, 52, 53, 54, 55, 56, 57, 58, 59] rfl (by decide +kernel)
set_option maxRecDepth 20000 in
theorem gX6_want_X6_peek : GoodIn wsX6_want (wsV RX6 101 RX6 yX6_peek wsX6_peek) := goodIn_app (goodIn_of _ (by decide +kernel)) ggX6_want_X6_peek
set_option maxRecDepth 20000 in
theorem ggX6_want_X6_fail : GoodIn wsX6_want wsX6_fail := goodIn_r _ [17, 1, 18, 19, 20, 21, 22, 23, 24, 25, 26, 27, 28, 29, 30, 31, 32, 33, 34, 35, 36, 37, 38, 39, 40, 41, 42, 43, 44, 45, 46, 47, 48, 49, 50, 51, 52, 53, 54, 55, 56, 57, 58, 59] rfl (by decide +kernel)
set_option maxRecDepth 20000 in
theorem gX6_want_X6_fail : GoodIn wsX6_want (wsV RX6 108 RX6 yX6_fail wsX6_fail) := goodIn_app (goodIn_of _ (by decide +kernel)) ggX6_want_X6_fail
set_option maxRecDepth 20000 in
theorem ggX6_wantToken_X6_token : GoodIn wsX6_wantToken wsX6_token := goodIn_r _ [7, 2, 8, 9, 10, 6, 11, 12, 13, 14, 15, 16, 17, 18, 19, 20, 21, 22, 23, 24, 25, 26, 27, 33, 34, 35, 36, 37, 38, 39, 40, 41, 42, 43, 44, 45, 46, 47, 48, 49, 50, 51, 52, 53, 54, 55, 56, 57, 58, 59, 60, 61, 62, 63, 64, 65, 66, 67, 68, 69, 70, 71, 72, 73] rfl (by decide +kernel)
set_option maxRecDepth 20000 in
theorem gX6_wantToken_X6_token : GoodIn wsX6_wantToken (wsV RX6 112 RX6 yX6_token wsX6_token) := goodIn_app (goodIn_of _ (by decide +kernel)) ggX6_wantToken_X6_token
set_option maxRecDepth 20000 in
theorem ggX6_wantToken_X6_fail : GoodIn wsX6_wantToken wsX6_fail := goodIn_r _ [31, 1, 32, 33, 34, 35, 36, 37, 38, 39, 40, 41, 42, 43, 44, 45, 46, 47, 48, 49, 50, 51, 52, 53, 54, 55, 56, 57, 58, 59, 60, 61, 62, 63, 64, 65, 66, 67, 68, 69, 70, 71, 72, 73] rfl (by decide +kernel)
set_option maxRecDepth 20000 in
theorem gX6_wantToken_X6_fail : GoodIn wsX6_wantToken (wsV RX6 108 RX6 yX6_fail wsX6_fail) := goodIn_app (goodIn_of _ (by decide +kernel)) ggX6_wantToken_X6_fail
set_option maxRecDepth 20000 in
theorem ggX6_sources_X6_peek : GoodIn wsX6_sources wsX6_peek := goodIn_r _ [13, 2, 14, 15, 16, 17, 18, 12, 19, 51, 52, 53, 54, 55, 56, 57, 58, 59, 60, 61, 62, 63, 64, 65, 66, 67, 68, 69, 70, 71, 72, 73, 74, 75, 76, 77, 78, 79, 80, 81, 82, 83, 84, 85, 86, 87, 88, 89, 90, 91] rfl (by decide +kernel)
set_option maxRecDepth 20000 in
theorem gX6_sources_X6_peek : GoodIn wsX6_sources (wsV RX6 101 RX6 yX6_peek wsX6_peek) := goodIn_app (goodIn_of _ (by decide +kernel)) ggX6_sources_X6_peek
set_option maxRecDepth 20000 in
theorem ggX6_sources_X6_isName : GoodIn wsX6_sources wsX6_isName := goodIn_r _ [23, 2, 9, 10, 11, 12, 13, 14, 15, 16, 17, 18, 19, 24, 25, 26, 27, 28, 29, 30, 31, 32, 33, 51, 52, 53, 54, 55, 56, 57, 58, 59, 60, 61, 62, 63, 64, 65, 66, 67, 68, 69, 70, 71, 72, 73, 74, 75, 76, 77, 78, 79, 80, 81, 82, 83, 84, 85, 86, 87, 88, 89, 90, 91] rfl (by decide +kernel)
set_option maxRecDepth 20000 in
theorem gX6_sources_X6_isName : GoodIn wsX6_sources (wsV RX6 118 RX6 yX6_isName wsX6_isName) := goodIn_app (goodIn_of _ (by decide +kernel)) ggX6_sources_X6_isName
set_option maxRecDepth 20000 in
theorem ggX6_sources_X6_fail : GoodIn wsX6_sources wsX6_fail := goodIn_r _ [37, 1, 38, 51, 52, 53, 54, 55, 56, 57, 58, 59, 60, 61, 62, 63, 64, 65, 66, 67, 68, 69, 70, 71, 72, 73, 74, 75, 76, 77, 78, 79, 80, 81, 82, 83, 84, 85, 86, 87, 88, 89, 90, 91] rfl (by decide +kernel)
set_option maxRecDepth 20000 in
theorem gX6_sources_X6_fail : GoodIn wsX6_sources (wsV RX6 108 RX6 yX6_fail wsX6_fail) := goodIn_app (goodIn_of _ (by decide +kernel)) ggX6_sources_X6_fail
set_option maxRecDepth 20000 in
theorem ggX6_sources_X6_token : GoodIn wsX6_sources wsX6_token := goodIn_r _ [42, 2, 9, 10, 11, 12, 13, 14, 15, 16, 17, 18, 19, 24, 25, 26, 27, 28, 29, 30, 31, 32, 33, 51, 52, 53, 54, 55, 56, 57, 58, 59, 60, 61, 62, 63, 64, 65, 66, 67, 68, 69, 70, 71, 72, 73, 74, 75, 76, 77, 78, 79, 80, 81, 82, 83, 84, 85, 86, 87, 88, 89, 90, 91] rfl (by decide +kernel)
set_option maxRecDepth 20000 in
theorem gX6_sources_X6_token : GoodIn wsX6_sources (wsV RX6 112 RX6 yX6_token wsX6_token) := goodIn_app (goodIn_of _ (by decide +kernel)) ggX6_sources_X6_token
set_option maxRecDepth 20000 in
theorem ggX6_sources_X6_find : GoodIn wsX6_sources wsX6_find := goodIn_r _ [46, 6, 5, 51, 52, 53, 54, 55, 56, 57, 58, 59, 60, 61, 62, 63, 64, 65, 66, 67, 68, 69, 70, 71, 72, 73, 74, 75, 76, 77, 78, 79, 80, 81, 82, 83, 84, 85, 86, 87, 88, 89, 90, 91] rfl (by decide +kernel)
set_option maxRecDepth 20000 in
theorem gX6_sources_X6_find : GoodIn wsX6_sources (wsV RX6 122 RX6 yX6_find wsX6_find) := goodIn_app (goodIn_of _ (by decide +kernel)) ggX6_sources_X6_find
set_option maxRecDepth 20000 in
theorem ggX6_sources_X6_tokenSize : GoodIn wsX6_sources wsX6_tokenSize := goodIn_r _ [27, 2, 16, 17, 18, 12, 19, 14, 15, 28, 29, 30, 31, 32, 33, 51, 52, 53, 54, 55, 56, 57, 58, 59, 60, 61, 62, 63, 64, 65, 66, 67, 68, 69, 70, 71, 72, 73, 74, 75, 76, 77, 78, 79, 80, 81, 82, 83, 84, 85, 86, 87, 88, 89, 90, 91] rfl (by decide +kernel)
set_option maxRecDepth 20000 in
theorem gX6_sources_X6_tokenSize : GoodIn wsX6_sources (wsV RX6 105 RX6 yX6_tokenSize wsX6_tokenSize) := goodIn_app (goodIn_of _ (by decide +kernel)) ggX6_sources_X6_tokenSize
set_option maxRecDepth 20000 in
theorem ggX6_sources_X6_want : GoodIn wsX6_sources wsX6_want := goodIn_r _ [50, 1, 2, 9, 10, 11, 12, 13, 14, 15, 16, 17, 18, 19, 34, 35, 36, 37, 38, 51, 52, 53, 54, 55, 56, 57, 58, 59, 60, 61, 62, 63, 64, 65, 66, 67, 68, 69, 70, 71, 72, 73, 74, 75, 76, 77, 78, 79, 80, 81, 82, 83, 84, 85, 86, 87, 88, 89, 90, 91] rfl (by decide +kernel)
set_option maxRecDepth 20000 in
theorem gX6_sources_X6_want : GoodIn wsX6_sources (wsV RX6 131 RX6 yX6_want wsX6_want) := goodIn_app (goodIn_of _ (by decide +kernel)) ggX6_sources_X6_want
set_option maxRecDepth 20000 in
theorem ggX6_operation_X6_token : GoodIn wsX6_operation wsX6_token := goodIn_r _ [5, 6, 7, 8, 9, 4, 10, 11, 12, 13, 14, 15, 16, 17, 18, 19, 20, 21, 22, 23, 24, 25, 26, 27, 28, 29, 30, 31, 32, 33, 34, 35, 36, 37, 38, 39, 40, 41, 42, 43, 44, 45, 46, 47, 48, 49, 50, 51, 52, 53, 54, 55, 56, 57, 58, 59, 60, 61, 62, 63, 64, 65, 66, 67] rfl (by decide +kernel)
set_option maxRecDepth 20000 in
theorem gX6_operation_X6_token : GoodIn wsX6_operation (wsV RX6 112 RX6 yX6_token wsX6_token) := goodIn_app (goodIn_of _ (by decide +kernel)) ggX6_operation_X6_token
set_option maxRecDepth 20000 in
theorem ggX6_givenName_X6_isName : GoodIn wsX6_givenName wsX6_isName := goodIn_r _ [7, 2, 8, 9, 10, 6, 11, 12, 13, 14, 15, 16, 17, 18, 19, 20, 21, 22, 23, 24, 25, 26, 27, 43, 44, 45, 46, 47, 48, 49, 50, 51, 52, 53, 54, 55, 56, 57, 58, 59, 60, 61, 62, 63, 64, 65, 66, 67, 68, 69, 70, 71, 72, 73, 74, 75, 76, 77, 78, 79, 80, 81, 82, 83] rfl (by decide +kernel)
set_option maxRecDepth 20000 in
theorem gX6_givenName_X6_isName : GoodIn wsX6_givenName (wsV RX6 118 RX6 yX6_isName wsX6_isName) := goodIn_app (goodIn_of _ (by decide +kernel)) ggX6_givenName_X6_isName
set_option maxRecDepth 20000 in
theorem ggX6_givenName_X6_fail : GoodIn wsX6_givenName wsX6_fail := goodIn_r _ [31, 1, 32, 43, 44, 45, 46, 47, 48, 49, 50, 51, 52, 53, 54, 55, 56, 57, 58, 59, 60, 61, 62, 63, 64, 65, 66, 67, 68, 69, 70, 71, 72, 73, 74, 75, 76, 77, 78, 79, 80, 81, 82, 83] rfl (by decide +kernel)
set_option maxRecDepth 20000 in
theorem gX6_givenName_X6_fail : GoodIn wsX6_givenName (wsV RX6 108 RX6 yX6_fail wsX6_fail) := goodIn_app (goodIn_of _ (by decide +kernel)) ggX6_givenName_X6_fail
set_option maxRecDepth 20000 in
theorem ggX6_givenName_X6_token : GoodIn wsX6_givenName wsX6_token := goodIn_r _ [36, 2, 8, 9, 10, 6, 11, 12, 13, 14, 15, 16, 17, 18, 19, 20, 21, 22, 23, 24, 25, 26, 27, 43, 44, 45, 46, 47, 48, 49, 50, 51, 52, 53, 54, 55, 56, 57, 58, 59, 60, 61, 62, 63, 64, 65, 66, 67, 68, 69, 70, 71, 72, 73, 74, 75, 76, 77, 78, 79, 80, 81, 82, 83] rfl (by decide +kernel)
set_option maxRecDepth 20000 in
theorem gX6_givenName_X6_token : GoodIn wsX6_givenName (wsV RX6 112 RX6 yX6_token wsX6_token) := goodIn_app (goodIn_of _ (by decide +kernel)) ggX6_givenName_X6_token
set_option maxRecDepth 20000 in
theorem ggX6_givenName_X6_find : GoodIn wsX6_givenName wsX6_find := goodIn_r _ [40, 41, 42, 43, 44, 45, 46, 47, 48, 49, 50, 51, 52, 53, 54, 55, 56, 57, 58, 59, 60, 61, 62, 63, 64, 65, 66, 67, 68, 69, 70, 71, 72, 73, 74, 75, 76, 77, 78, 79, 80, 81, 82, 83] rfl (by decide +kernel)
set_option maxRecDepth 20000 in
theorem gX6_givenName_X6_find : GoodIn wsX6_givenName (wsV RX6 122 RX6 yX6_find wsX6_find) := goodIn_app (goodIn_of _ (by decide +kernel)) ggX6_givenName_X6_find
set_option maxRecDepth 20000 in
theorem ggX6_gate_X6_peek : GoodIn wsX6_gate wsX6_peek := goodIn_r _ [12, 1, 13, 14, 15, 16, 17, 11, 18, 61, 62, 63, 64, 65, 66, 67, 68, 69, 70, 71, 72, 73, 74, 75, 76, 77, 78, 79, 80, 81, 82, 83, 84, 85, 86, 87, 88, 89, 90, 91, 92, 93, 94, 95, 96, 97, 98, 99, 100, 101] rfl (by decide +kernel)
set_option maxRecDepth 20000 in
theorem gX6_gate_X6_peek : GoodIn wsX6_gate (wsV RX6 101 RX6 yX6_peek wsX6_peek) := goodIn_app (goodIn_of _ (by decide +kernel)) ggX6_gate_X6_peek
set_option maxRecDepth 20000 in
theorem ggX6_gate_X6_isLetter : GoodIn wsX6_gate wsX6_isLetter := goodIn_r _ [21] rfl (by decide +kernel)
set_option maxRecDepth 20000 in
theorem gX6_gate_X6_isLetter : GoodIn wsX6_gate (va_wsS RX6 94 yX6_isLetter wsX6_isLetter) := goodIn_app (goodIn_of _ (by decide +kernel)) ggX6_gate_X6_isLetter
set_option maxRecDepth 20000 in
theorem ggX6_gate_X6_operation : GoodIn wsX6_gate wsX6_operation := goodIn_r _ [25, 26, 27, 28, 11, 29, 1, 8, 9, 10, 12, 13, 14, 15, 16, 17, 18, 30, 31, 32, 33, 19, 20, 21, 34, 35, 36, 61, 62, 63, 64, 65, 66, 67, 68, 69, 70, 71, 72, 73, 74, 75, 76, 77, 78, 79, 80, 81, 82, 83, 84, 85, 86, 87, 88, 89, 90, 91, 92, 93, 94, 95, 96, 97, 98, 99, 100, 101] rfl (by decide +kernel)
set_option maxRecDepth 20000 in
theorem gX6_gate_X6_operation : GoodIn wsX6_gate (wsV RX6 135 RX6 yX6_operation wsX6_operation) := goodIn_app (goodIn_of _ (by decide +kernel)) ggX6_gate_X6_operation
set_option maxRecDepth 20000 in
theorem ggX6_gate_X6_fail : GoodIn wsX6_gate wsX6_fail := goodIn_r _ [40, 2, 41, 61, 62, 63, 64, 65, 66, 67, 68, 69, 70, 71, 72, 73, 74, 75, 76, 77, 78, 79, 80, 81, 82, 83, 84, 85, 86, 87, 88, 89, 90, 91, 92, 93, 94, 95, 96, 97, 98, 99, 100, 101] rfl (by decide +kernel)
set_option maxRecDepth 20000 in
theorem gX6_gate_X6_fail : GoodIn wsX6_gate (wsV RX6 108 RX6 yX6_fail wsX6_fail) := goodIn_app (goodIn_of _ (by decide +kernel)) ggX6_gate_X6_fail
set_option maxRecDepth 20000 in
theorem ggX6_gate_X6_tokenSize : GoodIn wsX6_gate wsX6_tokenSize := goodIn_r _ [33, 1, 15, 16, 17, 11, 18, 13, 14, 19, 20, 21, 34, 35, 36, 61, 62, 63, 64, 65, 66, 67, 68, 69, 70, 71, 72, 73, 74, 75, 76, 77, 78, 79, 80, 81, 82, 83, 84, 85, 86, 87, 88, 89, 90, 91, 92, 93, 94, 95, 96, 97, 98, 99, 100, 101] rfl (by decide +kernel)
set_option maxRecDepth 20000 in
theorem gX6_gate_X6_tokenSize : GoodIn wsX6_gate (wsV RX6 105 RX6 yX6_tokenSize wsX6_tokenSize) := goodIn_app (goodIn_of _ (by decide +kernel)) ggX6_gate_X6_tokenSize
set_option maxRecDepth 20000 in
theorem ggX6_gate_X6_want : GoodIn wsX6_gate wsX6_want := goodIn_r _ [45, 2, 1, 8, 9, 10, 11, 12, 13, 14, 15, 16, 17, 18, 37, 38, 39, 40, 41, 61, 62, 63, 64, 65, 66, 67, 68, 69, 70, 71, 72, 73, 74, 75, 76, 77, 78, 79, 80, 81, 82, 83, 84, 85, 86, 87, 88, 89, 90, 91, 92, 93, 94, 95, 96, 97, 98, 99, 100, 101] rfl (by decide +kernel)
set_option maxRecDepth 20000 in
theorem gX6_gate_X6_want : GoodIn wsX6_gate (wsV RX6 131 RX6 yX6_want wsX6_want) := goodIn_app (goodIn_of _ (by decide +kernel)) ggX6_gate_X6_want
set_option maxRecDepth 20000 in
theorem ggX6_gate_X6_least : GoodIn wsX6_gate wsX6_least := goodIn_r _ [48] rfl (by decide +kernel)
set_option maxRecDepth 20000 in
theorem gX6_gate_X6_least : GoodIn wsX6_gate (va_wsS RX6 138 yX6_least wsX6_least) := goodIn_app (goodIn_of _ (by decide +kernel)) ggX6_gate_X6_least
set_option maxRecDepth 20000 in
theorem ggX6_gate_X6_givenName : GoodIn wsX6_gate wsX6_givenName := goodIn_r _ [52, 2, 1, 53, 54, 55, 11, 56, 8, 9, 10, 12, 13, 14, 15, 16, 17, 18, 30, 31, 32, 33, 19, 20, 21, 34, 35, 36, 37, 38, 39, 40, 41, 26, 27, 28, 29, 57, 58, 59, 60, 4, 5, 61, 62, 63, 64, 65, 66, 67, 68, 69, 70, 71, 72, 73, 74, 75, 76, 77, 78, 79, 80, 81, 82, 83, 84, 85, 86, 87, 88, 89, 90, 91, 92, 93, 94, 95, 96, 97, 98, 99, 100, 101] rfl (by decide +kernel)
set_option maxRecDepth 20000 in
theorem gX6_gate_X6_givenName : GoodIn wsX6_gate (wsV RX6 141 RX6 yX6_givenName wsX6_givenName) := goodIn_app (goodIn_of _ (by decide +kernel)) ggX6_gate_X6_givenName
set_option maxRecDepth 20000 in
theorem ggX6_line_X6_isName : GoodIn wsX6_line wsX6_isName := goodIn_r _ [11, 1, 12, 13, 14, 10, 15, 16, 17, 18, 19, 20, 21, 22, 23, 24, 25, 26, 27, 28, 29, 30, 31, 68, 69, 70, 71, 72, 73, 74, 75, 76, 77, 78, 79, 80, 81, 82, 83, 84, 85, 86, 87, 88, 89, 90, 91, 92, 93, 94, 95, 96, 97, 98, 99, 100, 101, 102, 103, 104, 105, 106, 107, 108] rfl (by decide +kernel)
set_option maxRecDepth 20000 in
theorem gX6_line_X6_isName : GoodIn wsX6_line (wsV RX6 118 RX6 yX6_isName wsX6_isName) := goodIn_app (goodIn_of _ (by decide +kernel)) ggX6_line_X6_isName
set_option maxRecDepth 20000 in
theorem ggX6_line_X6_fail : GoodIn wsX6_line wsX6_fail := goodIn_r _ [35, 3, 36, 68, 69, 70, 71, 72, 73, 74, 75, 76, 77, 78, 79, 80, 81, 82, 83, 84, 85, 86, 87, 88, 89, 90, 91, 92, 93, 94, 95, 96, 97, 98, 99, 100, 101, 102, 103, 104, 105, 106, 107, 108] rfl (by decide +kernel)
set_option maxRecDepth 20000 in
theorem gX6_line_X6_fail : GoodIn wsX6_line (wsV RX6 108 RX6 yX6_fail wsX6_fail) := goodIn_app (goodIn_of _ (by decide +kernel)) ggX6_line_X6_fail
set_option maxRecDepth 20000 in
theorem ggX6_line_X6_token : GoodIn wsX6_line wsX6_token := goodIn_r _ [40, 1, 12, 13, 14, 10, 15, 16, 17, 18, 19, 20, 21, 22, 23, 24, 25, 26, 27, 28, 29, 30, 31, 68, 69, 70, 71, 72, 73, 74, 75, 76, 77, 78, 79, 80, 81, 82, 83, 84, 85, 86, 87, 88, 89, 90, 91, 92, 93, 94, 95, 96, 97, 98, 99, 100, 101, 102, 103, 104, 105, 106, 107, 108] rfl (by decide +kernel)
set_option maxRecDepth 20000 in
theorem gX6_line_X6_token : GoodIn wsX6_line (wsV RX6 112 RX6 yX6_token wsX6_token) := goodIn_app (goodIn_of _ (by decide +kernel)) ggX6_line_X6_token
set_option maxRecDepth 20000 in
theorem ggX6_line_X6_tokenSize : GoodIn wsX6_line wsX6_tokenSize := goodIn_r _ [25, 1, 18, 19, 20, 10, 21, 16, 17, 26, 27, 28, 29, 30, 31, 68, 69, 70, 71, 72, 73, 74, 75, 76, 77, 78, 79, 80, 81, 82, 83, 84, 85, 86, 87, 88, 89, 90, 91, 92, 93, 94, 95, 96, 97, 98, 99, 100, 101, 102, 103, 104, 105, 106, 107, 108] rfl (by decide +kernel)
set_option maxRecDepth 20000 in
theorem gX6_line_X6_tokenSize : GoodIn wsX6_line (wsV RX6 105 RX6 yX6_tokenSize wsX6_tokenSize) := goodIn_app (goodIn_of _ (by decide +kernel)) ggX6_line_X6_tokenSize
set_option maxRecDepth 20000 in
theorem ggX6_line_X6_peek : GoodIn wsX6_line wsX6_peek := goodIn_r _ [15, 1, 16, 17, 18, 19, 20, 10, 21, 68, 69, 70, 71, 72, 73, 74, 75, 76, 77, 78, 79, 80, 81, 82, 83, 84, 85, 86, 87, 88, 89, 90, 91, 92, 93, 94, 95, 96, 97, 98, 99, 100, 101, 102, 103, 104, 105, 106, 107, 108] rfl (by decide +kernel)
set_option maxRecDepth 20000 in
theorem gX6_line_X6_peek : GoodIn wsX6_line (wsV RX6 101 RX6 yX6_peek wsX6_peek) := goodIn_app (goodIn_of _ (by decide +kernel)) ggX6_line_X6_peek
set_option maxRecDepth 20000 in
theorem ggX6_line_X6_find : GoodIn wsX6_line wsX6_find := goodIn_r _ [44, 2, 45, 68, 69, 70, 71, 72, 73, 74, 75, 76, 77, 78, 79, 80, 81, 82, 83, 84, 85, 86, 87, 88, 89, 90, 91, 92, 93, 94, 95, 96, 97, 98, 99, 100, 101, 102, 103, 104, 105, 106, 107, 108] rfl (by decide +kernel)
set_option maxRecDepth 20000 in
theorem gX6_line_X6_find : GoodIn wsX6_line (wsV RX6 122 RX6 yX6_find wsX6_find) := goodIn_app (goodIn_of _ (by decide +kernel)) ggX6_line_X6_find
set_option maxRecDepth 20000 in
theorem ggX6_line_X6_gate : GoodIn wsX6_line wsX6_gate := goodIn_r _ [49, 1, 3, 50, 2, 45, 51, 52, 12, 13, 14, 10, 15, 16, 17, 18, 19, 20, 21, 26, 27, 28, 53, 54, 55, 56, 37, 38, 39, 40, 22, 23, 24, 25, 29, 30, 31, 32, 33, 34, 35, 36, 57, 58, 59, 60, 61, 62, 63, 64, 65, 66, 67, 7, 8, 9, 11, 41, 42, 43, 44, 68, 69, 70, 71, 72, 73, 74, 75, 76, 77, 78, 79, 80, 81, 82, 83, 84, 85, 86, 87, 88, 89, 90, 91, 92, 93, 94, 95, 96, 97, 98, 99, 100, 101, 102, 103, 104, 105, 106, 107, 108] rfl (by decide +kernel)
set_option maxRecDepth 20000 in
theorem gX6_line_X6_gate : GoodIn wsX6_line (wsV RX6 144 RX6 yX6_gate wsX6_gate) := goodIn_app (goodIn_of _ (by decide +kernel)) ggX6_line_X6_gate
set_option maxRecDepth 20000 in
theorem ggX6_line_X6_want : GoodIn wsX6_line wsX6_want := goodIn_r _ [60, 3, 1, 12, 13, 14, 10, 15, 16, 17, 18, 19, 20, 21, 32, 33, 34, 35, 36, 68, 69, 70, 71, 72, 73, 74, 75, 76, 77, 78, 79, 80, 81, 82, 83, 84, 85, 86, 87, 88, 89, 90, 91, 92, 93, 94, 95, 96, 97, 98, 99, 100, 101, 102, 103, 104, 105, 106, 107, 108] rfl (by decide +kernel)
set_option maxRecDepth 20000 in
theorem gX6_line_X6_want : GoodIn wsX6_line (wsV RX6 131 RX6 yX6_want wsX6_want) := goodIn_app (goodIn_of _ (by decide +kernel)) ggX6_line_X6_want
set_option maxRecDepth 20000 in
theorem ggX6_line_X6_givenName : GoodIn wsX6_line wsX6_givenName := goodIn_r _ [67, 3, 1, 7, 8, 9, 10, 11, 12, 13, 14, 15, 16, 17, 18, 19, 20, 21, 22, 23, 24, 25, 26, 27, 28, 29, 30, 31, 32, 33, 34, 35, 36, 37, 38, 39, 40, 41, 42, 43, 44, 2, 45, 68, 69, 70, 71, 72, 73, 74, 75, 76, 77, 78, 79, 80, 81, 82, 83, 84, 85, 86, 87, 88, 89, 90, 91, 92, 93, 94, 95, 96, 97, 98, 99, 100, 101, 102, 103, 104, 105, 106, 107, 108] rfl (by decide +kernel)
set_option maxRecDepth 20000 in
theorem gX6_line_X6_givenName : GoodIn wsX6_line (wsV RX6 141 RX6 yX6_givenName wsX6_givenName) := goodIn_app (goodIn_of _ (by decide +kernel)) ggX6_line_X6_givenName
set_option maxRecDepth 20000 in
theorem ggX6_outputs_X6_peek : GoodIn wsX6_outputs wsX6_peek := goodIn_r _ [9, 3, 10, 11, 12, 13, 14, 8, 15, 53, 54, 55, 56, 57, 58, 59, 60, 61, 62, 63, 64, 65, 66, 67, 68, 69, 70, 71, 72, 73, 74, 75, 76, 77, 78, 79, 80, 81, 82, 83, 84, 85, 86, 87, 88, 89, 90, 91, 92, 93] rfl (by decide +kernel)
set_option maxRecDepth 20000 in
theorem gX6_outputs_X6_peek : GoodIn wsX6_outputs (wsV RX6 101 RX6 yX6_peek wsX6_peek) := goodIn_app (goodIn_of _ (by decide +kernel)) ggX6_outputs_X6_peek
set_option maxRecDepth 20000 in
theorem ggX6_outputs_X6_givenName : GoodIn wsX6_outputs wsX6_givenName := goodIn_r _ [19, 1, 3, 20, 21, 22, 8, 23, 5, 6, 7, 9, 10, 11, 12, 13, 14, 15, 24, 25, 26, 27, 28, 29, 30, 31, 32, 33, 34, 35, 36, 37, 38, 39, 40, 41, 42, 43, 44, 45, 46, 47, 48, 53, 54, 55, 56, 57, 58, 59, 60, 61, 62, 63, 64, 65, 66, 67, 68, 69, 70, 71, 72, 73, 74, 75, 76, 77, 78, 79, 80, 81, 82, 83, 84, 85, 86, 87, 88, 89, 90, 91, 92, 93] rfl (by decide +kernel)
set_option maxRecDepth 20000 in
theorem gX6_outputs_X6_givenName : GoodIn wsX6_outputs (wsV RX6 141 RX6 yX6_givenName wsX6_givenName) := goodIn_app (goodIn_of _ (by decide +kernel)) ggX6_outputs_X6_givenName
set_option maxRecDepth 20000 in
theorem ggX6_outputs_X6_fail : GoodIn wsX6_outputs wsX6_fail := goodIn_r _ [37, 1, 38, 53, 54, 55, 56, 57, 58, 59, 60, 61, 62, 63, 64, 65, 66, 67, 68, 69, 70, 71, 72, 73, 74, 75, 76, 77, 78, 79, 80, 81, 82, 83, 84, 85, 86, 87, 88, 89, 90, 91, 92, 93] rfl (by decide +kernel)
set_option maxRecDepth 20000 in
theorem gX6_outputs_X6_fail : GoodIn wsX6_outputs (wsV RX6 108 RX6 yX6_fail wsX6_fail) := goodIn_app (goodIn_of _ (by decide +kernel)) ggX6_outputs_X6_fail
set_option maxRecDepth 20000 in
theorem ggX6_outputs_X6_tokenSize : GoodIn wsX6_outputs wsX6_tokenSize := goodIn_r _ [27, 3, 12, 13, 14, 8, 15, 10, 11, 28, 29, 30, 31, 32, 33, 53, 54, 55, 56, 57, 58, 59, 60, 61, 62, 63, 64, 65, 66, 67, 68, 69, 70, 71, 72, 73, 74, 75, 76, 77, 78, 79, 80, 81, 82, 83, 84, 85, 86, 87, 88, 89, 90, 91, 92, 93] rfl (by decide +kernel)
set_option maxRecDepth 20000 in
theorem gX6_outputs_X6_tokenSize : GoodIn wsX6_outputs (wsV RX6 105 RX6 yX6_tokenSize wsX6_tokenSize) := goodIn_app (goodIn_of _ (by decide +kernel)) ggX6_outputs_X6_tokenSize
set_option maxRecDepth 20000 in
theorem ggX6_outputs_X6_want : GoodIn wsX6_outputs wsX6_want := goodIn_r _ [52, 1, 3, 5, 6, 7, 8, 9, 10, 11, 12, 13, 14, 15, 34, 35, 36, 37, 38, 53, 54, 55, 56, 57, 58, 59, 60, 61, 62, 63, 64, 65, 66, 67, 68, 69, 70, 71, 72, 73, 74, 75, 76, 77, 78, 79, 80, 81, 82, 83, 84, 85, 86, 87, 88, 89, 90, 91, 92, 93] rfl (by decide +kernel)
set_option maxRecDepth 20000 in
theorem gX6_outputs_X6_want : GoodIn wsX6_outputs (wsV RX6 131 RX6 yX6_want wsX6_want) := goodIn_app (goodIn_of _ (by decide +kernel)) ggX6_outputs_X6_want
set_option maxRecDepth 20000 in
theorem ggX6_read_X6_wantToken : GoodIn wsX6_read wsX6_wantToken := goodIn_r _ [15, 2, 4, 16, 17, 18, 14, 19, 20, 21, 22, 23, 24, 25, 26, 27, 28, 29, 30, 31, 32, 33, 34, 35, 36, 37, 38, 39, 40, 41, 42, 43, 3, 112, 113, 114, 115, 116, 117, 118, 119, 120, 121, 122, 123, 124, 125, 126, 127, 128, 129, 130, 131, 132, 133, 134, 135, 136, 137, 138, 139, 140, 141, 142, 143, 144, 145, 146, 147, 148, 149, 150, 151, 152] rfl (by decide +kernel)
set_option maxRecDepth 20000 in
theorem gX6_read_X6_wantToken : GoodIn wsX6_read (wsV RX6 150 RX6 yX6_wantToken wsX6_wantToken) := goodIn_app (goodIn_of _ (by decide +kernel)) ggX6_read_X6_wantToken
set_option maxRecDepth 20000 in
theorem ggX6_read_X6_sources : GoodIn wsX6_read wsX6_sources := goodIn_r _ [47, 2, 4, 6, 7, 48, 5, 49, 50, 20, 21, 22, 14, 23, 24, 25, 26, 27, 28, 29, 51, 52, 53, 54, 30, 31, 32, 33, 34, 35, 36, 37, 38, 39, 40, 41, 42, 43, 3, 16, 17, 18, 19, 55, 56, 57, 58, 59, 60, 61, 62, 112, 113, 114, 115, 116, 117, 118, 119, 120, 121, 122, 123, 124, 125, 126, 127, 128, 129, 130, 131, 132, 133, 134, 135, 136, 137, 138, 139, 140, 141, 142, 143, 144, 145, 146, 147, 148, 149, 150, 151, 152] rfl (by decide +kernel)
set_option maxRecDepth 20000 in
theorem gX6_read_X6_sources : GoodIn wsX6_read (wsV RX6 153 RX6 yX6_sources wsX6_sources) := goodIn_app (goodIn_of _ (by decide +kernel)) ggX6_read_X6_sources
set_option maxRecDepth 20000 in
theorem ggX6_read_X6_token : GoodIn wsX6_read wsX6_token := goodIn_r _ [19, 4, 20, 21, 22, 14, 23, 24, 25, 26, 27, 28, 29, 30, 31, 32, 33, 34, 35, 36, 37, 38, 39, 112, 113, 114, 115, 116, 117, 118, 119, 120, 121, 122, 123, 124, 125, 126, 127, 128, 129, 130, 131, 132, 133, 134, 135, 136, 137, 138, 139, 140, 141, 142, 143, 144, 145, 146, 147, 148, 149, 150, 151, 152] rfl (by decide +kernel)
set_option maxRecDepth 20000 in
theorem gX6_read_X6_token : GoodIn wsX6_read (wsV RX6 112 RX6 yX6_token wsX6_token) := goodIn_app (goodIn_of _ (by decide +kernel)) ggX6_read_X6_token
set_option maxRecDepth 20000 in
theorem ggX6_read_X6_line : GoodIn wsX6_read wsX6_line := goodIn_r _ [66, 4, 5, 2, 6, 7, 50, 51, 52, 53, 14, 54, 20, 21, 22, 23, 24, 25, 26, 27, 28, 29, 30, 31, 32, 33, 34, 35, 36, 37, 38, 39, 40, 41, 42, 43, 3, 16, 17, 18, 19, 55, 56, 57, 58, 48, 67, 68, 69, 70, 71, 49, 72, 73, 74, 75, 76, 59, 60, 61, 62, 77, 78, 79, 80, 81, 82, 83, 112, 113, 114, 115, 116, 117, 118, 119, 120, 121, 122, 123, 124, 125, 126, 127, 128, 129, 130, 131, 132, 133, 134, 135, 136, 137, 138, 139, 140, 141, 142, 143, 144, 145, 146, 147, 148, 149, 150, 151, 152] rfl (by decide +kernel)
set_option maxRecDepth 20000 in
theorem gX6_read_X6_line : GoodIn wsX6_read (wsV RX6 158 RX6 yX6_line wsX6_line) := goodIn_app (goodIn_of _ (by decide +kernel)) ggX6_read_X6_line
set_option maxRecDepth 20000 in
theorem ggX6_read_X6_outputs : GoodIn wsX6_read wsX6_outputs := goodIn_r _ [87, 2, 8, 4, 88, 20, 21, 22, 14, 23, 24, 25, 26, 27, 28, 29, 80, 81, 82, 83, 51, 52, 53, 54, 30, 31, 32, 33, 34, 35, 36, 37, 38, 39, 40, 41, 42, 43, 3, 16, 17, 18, 19, 55, 56, 57, 58, 5, 48, 59, 60, 61, 62, 112, 113, 114, 115, 116, 117, 118, 119, 120, 121, 122, 123, 124, 125, 126, 127, 128, 129, 130, 131, 132, 133, 134, 135, 136, 137, 138, 139, 140, 141, 142, 143, 144, 145, 146, 147, 148, 149, 150, 151, 152] rfl (by decide +kernel)
set_option maxRecDepth 20000 in
theorem gX6_read_X6_outputs : GoodIn wsX6_read (wsV RX6 161 RX6 yX6_outputs wsX6_outputs) := goodIn_app (goodIn_of _ (by decide +kernel)) ggX6_read_X6_outputs
set_option maxRecDepth 20000 in
theorem ggX6_read_X6_peek : GoodIn wsX6_read wsX6_peek := goodIn_r _ [23, 4, 24, 25, 26, 27, 28, 14, 29, 112, 113, 114, 115, 116, 117, 118, 119, 120, 121, 122, 123, 124, 125, 126, 127, 128, 129, 130, 131, 132, 133, 134, 135, 136, 137, 138, 139, 140, 141, 142, 143, 144, 145, 146, 147, 148, 149, 150, 151, 152] rfl (by decide +kernel)
set_option maxRecDepth 20000 in
theorem gX6_read_X6_peek : GoodIn wsX6_read (wsV RX6 101 RX6 yX6_peek wsX6_peek) := goodIn_app (goodIn_of _ (by decide +kernel)) ggX6_read_X6_peek
set_option maxRecDepth 20000 in
theorem ggX6_read_X6_fail : GoodIn wsX6_read wsX6_fail := goodIn_r _ [43, 2, 3, 112, 113, 114, 115, 116, 117, 118, 119, 120, 121, 122, 123, 124, 125, 126, 127, 128, 129, 130, 131, 132, 133, 134, 135, 136, 137, 138, 139, 140, 141, 142, 143, 144, 145, 146, 147, 148, 149, 150, 151, 152] rfl (by decide +kernel)
set_option maxRecDepth 20000 in
theorem gX6_read_X6_fail : GoodIn wsX6_read (wsV RX6 108 RX6 yX6_fail wsX6_fail) := goodIn_app (goodIn_of _ (by decide +kernel)) ggX6_read_X6_fail
set_option maxRecDepth 20000 in
theorem ggX6_read_X6_keep : GoodIn wsX6_read wsX6_keep := goodIn_r _ [92, 5, 10, 6, 93, 7, 94, 8, 95, 96, 49, 97, 72, 98, 71, 99, 50, 100, 88, 101, 102, 103, 104, 14, 105, 106, 107, 108, 109, 110, 111, 112, 113, 114, 115, 116, 117, 118, 119, 120, 121, 122, 123, 124, 125, 126, 127, 128, 129, 130, 131, 132, 133, 134, 135, 136, 137, 138, 139, 140, 141, 142, 143, 144, 145, 146, 147, 148, 149, 150, 151, 152] rfl (by decide +kernel)
set_option maxRecDepth 20000 in
theorem gX6_read_X6_keep : GoodIn wsX6_read (wsV RX6 164 RX6 yX6_keep wsX6_keep) := goodIn_app (goodIn_of _ (by decide +kernel)) ggX6_read_X6_keep
set_option maxRecDepth 20000 in
theorem ggX6_keep_X6_newChip : GoodIn wsX6_keep wsX6_newChip := goodIn_r _ [24, 25, 26, 27, 28, 29, 30, 31, 32, 33, 34, 35, 36, 37, 38, 39, 40, 41, 42, 43, 44, 45, 46, 47, 48, 49, 50, 51, 52, 53, 54, 55, 56, 57, 58, 59, 60, 61, 62, 63, 64, 65, 66, 67, 68, 69, 70, 71] rfl (by decide +kernel)
set_option maxRecDepth 20000 in
theorem gX6_keep_X6_newChip : GoodIn wsX6_keep (wsV RX6 183 RX6 yX6_newChip wsX6_newChip) := goodIn_app (goodIn_of _ (by decide +kernel)) ggX6_keep_X6_newChip
set_option maxRecDepth 20000 in
theorem ggX6_settle_X6_gateValue : GoodIn wsX6_settle wsX6_gateValue := goodIn_r _ [8, 3, 9, 2, 10, 11, 12, 13, 14, 15, 16, 17, 18, 19, 20, 21, 22, 23, 24, 25, 26, 27, 28, 29, 30, 31, 32, 33, 34, 35, 36, 37, 38, 39, 40, 41, 42, 43, 44, 45, 46, 47, 48, 49, 50, 51] rfl (by decide +kernel)
set_option maxRecDepth 20000 in
theorem gX6_settle_X6_gateValue : GoodIn wsX6_settle (wsV RX6 186 RX6 yX6_gateValue wsX6_gateValue) := goodIn_app (goodIn_of _ (by decide +kernel)) ggX6_settle_X6_gateValue
set_option maxRecDepth 20000 in
theorem ggX6_answerOf_X6_settle : GoodIn wsX6_answerOf wsX6_settle := goodIn_r _ [11, 12, 13, 2, 14, 15, 16, 10, 17, 18, 19, 20, 21, 22, 23, 24, 25, 26, 27, 28, 29, 30, 31, 32, 33, 34, 35, 36, 37, 38, 39, 40, 41, 42, 43, 44, 45, 46, 47, 48, 49, 50, 51, 52, 53, 54, 55, 56, 57, 58, 59, 60] rfl (by decide +kernel)
set_option maxRecDepth 20000 in
theorem gX6_answerOf_X6_settle : GoodIn wsX6_answerOf (wsV RX6 189 RX6 yX6_settle wsX6_settle) := goodIn_app (goodIn_of _ (by decide +kernel)) ggX6_answerOf_X6_settle
set_option maxRecDepth 20000 in
theorem ggX6_showsWith_X6_patterns : GoodIn wsX6_showsWith wsX6_patterns := goodIn_r _ [6, 7, 8, 9, 10, 11, 12, 13, 14, 15, 16, 17, 18, 19, 20, 21, 22, 23, 24, 25, 26, 27, 28, 29, 30, 31, 32, 33, 34, 35, 36, 37, 38, 39, 40, 41, 42, 43, 44, 45, 46, 47, 48, 49] rfl (by decide +kernel)
set_option maxRecDepth 20000 in
theorem gX6_showsWith_X6_patterns : GoodIn wsX6_showsWith (wsV RX6 192 RX6 yX6_patterns wsX6_patterns) := goodIn_app (goodIn_of _ (by decide +kernel)) ggX6_showsWith_X6_patterns
set_option maxRecDepth 20000 in
theorem ggX6_leastOf_X6_patterns : GoodIn wsX6_leastOf wsX6_patterns := goodIn_r _ [6, 7, 8, 9, 10, 11, 12, 13, 14, 15, 16, 17, 18, 19, 20, 21, 22, 23, 24, 25, 26, 27, 28, 29, 30, 31, 32, 33, 34, 35, 36, 37, 38, 39, 40, 41, 42, 43, 44, 45, 46, 47, 48, 49] rfl (by decide +kernel)
set_option maxRecDepth 20000 in
theorem gX6_leastOf_X6_patterns : GoodIn wsX6_leastOf (wsV RX6 192 RX6 yX6_patterns wsX6_patterns) := goodIn_app (goodIn_of _ (by decide +kernel)) ggX6_leastOf_X6_patterns
set_option maxRecDepth 20000 in
theorem ggX6_fixOf_X6_leastOf : GoodIn wsX6_fixOf wsX6_leastOf := goodIn_r _ [7, 8, 9, 10, 11, 6, 12, 1, 2, 17, 18, 19, 20, 21, 22, 23, 24, 25, 26, 27, 28, 29, 30, 31, 32, 33, 34, 35, 36, 37, 38, 39, 40, 41, 42, 43, 44, 45, 46, 47, 48, 49, 50, 51, 52, 53, 54, 55, 56, 57] rfl (by decide +kernel)
set_option maxRecDepth 20000 in
theorem gX6_fixOf_X6_leastOf : GoodIn wsX6_fixOf (wsV RX6 195 RX6 yX6_leastOf wsX6_leastOf) := goodIn_app (goodIn_of _ (by decide +kernel)) ggX6_fixOf_X6_leastOf
set_option maxRecDepth 20000 in
theorem ggX6_fixOf_X6_patterns : GoodIn wsX6_fixOf wsX6_patterns := goodIn_r _ [12, 1, 2, 17, 18, 19, 20, 21, 22, 23, 24, 25, 26, 27, 28, 29, 30, 31, 32, 33, 34, 35, 36, 37, 38, 39, 40, 41, 42, 43, 44, 45, 46, 47, 48, 49, 50, 51, 52, 53, 54, 55, 56, 57] rfl (by decide +kernel)
set_option maxRecDepth 20000 in
theorem gX6_fixOf_X6_patterns : GoodIn wsX6_fixOf (wsV RX6 192 RX6 yX6_patterns wsX6_patterns) := goodIn_app (goodIn_of _ (by decide +kernel)) ggX6_fixOf_X6_patterns
set_option maxRecDepth 20000 in
theorem ggX6_fixOf_X6_showsWith : GoodIn wsX6_fixOf wsX6_showsWith := goodIn_r _ [16, 8, 9, 10, 11, 6, 12, 1, 2, 17, 18, 19, 20, 21, 22, 23, 24, 25, 26, 27, 28, 29, 30, 31, 32, 33, 34, 35, 36, 37, 38, 39, 40, 41, 42, 43, 44, 45, 46, 47, 48, 49, 50, 51, 52, 53, 54, 55, 56, 57] rfl (by decide +kernel)
set_option maxRecDepth 20000 in
theorem gX6_fixOf_X6_showsWith : GoodIn wsX6_fixOf (wsV RX6 198 RX6 yX6_showsWith wsX6_showsWith) := goodIn_app (goodIn_of _ (by decide +kernel)) ggX6_fixOf_X6_showsWith
set_option maxRecDepth 20000 in
theorem ggX6_choose_X6_showsWith : GoodIn wsX6_choose wsX6_showsWith := goodIn_r _ [8, 9, 10, 11, 12, 7, 13, 14, 15, 24, 25, 26, 27, 28, 29, 30, 31, 32, 33, 34, 35, 36, 37, 38, 39, 40, 41, 42, 43, 44, 45, 46, 47, 48, 49, 50, 51, 52, 53, 54, 55, 56, 57, 58, 59, 60, 61, 62, 63, 64] rfl (by decide +kernel)
set_option maxRecDepth 20000 in
theorem gX6_choose_X6_showsWith : GoodIn wsX6_choose (wsV RX6 198 RX6 yX6_showsWith wsX6_showsWith) := goodIn_app (goodIn_of _ (by decide +kernel)) ggX6_choose_X6_showsWith
set_option maxRecDepth 20000 in
theorem ggX6_choose_X6_fixOf : GoodIn wsX6_choose wsX6_fixOf := goodIn_r _ [19, 14, 15, 20, 21, 22, 7, 23, 9, 10, 11, 12, 13, 4, 5, 6, 8, 24, 25, 26, 27, 28, 29, 30, 31, 32, 33, 34, 35, 36, 37, 38, 39, 40, 41, 42, 43, 44, 45, 46, 47, 48, 49, 50, 51, 52, 53, 54, 55, 56, 57, 58, 59, 60, 61, 62, 63, 64] rfl (by decide +kernel)
set_option maxRecDepth 20000 in
theorem gX6_choose_X6_fixOf : GoodIn wsX6_choose (wsV RX6 205 RX6 yX6_fixOf wsX6_fixOf) := goodIn_app (goodIn_of _ (by decide +kernel)) ggX6_choose_X6_fixOf
set_option maxRecDepth 20000 in
theorem ggX6_choose_X6_leastOf : GoodIn wsX6_choose wsX6_leastOf := goodIn_r _ [23, 9, 10, 11, 12, 7, 13, 14, 15, 24, 25, 26, 27, 28, 29, 30, 31, 32, 33, 34, 35, 36, 37, 38, 39, 40, 41, 42, 43, 44, 45, 46, 47, 48, 49, 50, 51, 52, 53, 54, 55, 56, 57, 58, 59, 60, 61, 62, 63, 64] rfl (by decide +kernel)
set_option maxRecDepth 20000 in
theorem gX6_choose_X6_leastOf : GoodIn wsX6_choose (wsV RX6 195 RX6 yX6_leastOf wsX6_leastOf) := goodIn_app (goodIn_of _ (by decide +kernel)) ggX6_choose_X6_leastOf
set_option maxRecDepth 20000 in
theorem ggX6_know_X6_patterns : GoodIn wsX6_know wsX6_patterns := goodIn_r _ [11, 12, 13, 65, 66, 67, 68, 69, 70, 71, 72, 73, 74, 75, 76, 77, 78, 79, 80, 81, 82, 83, 84, 85, 86, 87, 88, 89, 90, 91, 92, 93, 94, 95, 96, 97, 98, 99, 100, 101, 102, 103, 104, 105] rfl (by decide +kernel)
set_option maxRecDepth 20000 in
theorem gX6_know_X6_patterns : GoodIn wsX6_know (wsV RX6 192 RX6 yX6_patterns wsX6_patterns) := goodIn_app (goodIn_of _ (by decide +kernel)) ggX6_know_X6_patterns
set_option maxRecDepth 20000 in
theorem ggX6_know_X6_answerOf : GoodIn wsX6_know wsX6_answerOf := goodIn_r _ [17, 18, 19, 20, 13, 21, 12, 22, 23, 24, 10, 25, 4, 26, 27, 28, 29, 30, 31, 32, 65, 66, 67, 68, 69, 70, 71, 72, 73, 74, 75, 76, 77, 78, 79, 80, 81, 82, 83, 84, 85, 86, 87, 88, 89, 90, 91, 92, 93, 94, 95, 96, 97, 98, 99, 100, 101, 102, 103, 104, 105] rfl (by decide +kernel)
set_option maxRecDepth 20000 in
theorem gX6_know_X6_answerOf : GoodIn wsX6_know (wsV RX6 208 RX6 yX6_answerOf wsX6_answerOf) := goodIn_app (goodIn_of _ (by decide +kernel)) ggX6_know_X6_answerOf
set_option maxRecDepth 20000 in
theorem ggX6_know_X6_leastOf : GoodIn wsX6_know wsX6_leastOf := goodIn_r _ [36, 5, 7, 8, 9, 10, 11, 12, 13, 65, 66, 67, 68, 69, 70, 71, 72, 73, 74, 75, 76, 77, 78, 79, 80, 81, 82, 83, 84, 85, 86, 87, 88, 89, 90, 91, 92, 93, 94, 95, 96, 97, 98, 99, 100, 101, 102, 103, 104, 105] rfl (by decide +kernel)
set_option maxRecDepth 20000 in
theorem gX6_know_X6_leastOf : GoodIn wsX6_know (wsV RX6 195 RX6 yX6_leastOf wsX6_leastOf) := goodIn_app (goodIn_of _ (by decide +kernel)) ggX6_know_X6_leastOf
set_option maxRecDepth 20000 in
theorem ggX6_know_X6_choose : GoodIn wsX6_know wsX6_choose := goodIn_r _ [40, 6, 41, 42, 43, 44, 45, 10, 46, 5, 7, 8, 9, 11, 12, 13, 47, 48, 49, 50, 33, 34, 35, 36, 65, 66, 67, 68, 69, 70, 71, 72, 73, 74, 75, 76, 77, 78, 79, 80, 81, 82, 83, 84, 85, 86, 87, 88, 89, 90, 91, 92, 93, 94, 95, 96, 97, 98, 99, 100, 101, 102, 103, 104, 105] rfl (by decide +kernel)
set_option maxRecDepth 20000 in
theorem gX6_know_X6_choose : GoodIn wsX6_know (wsV RX6 215 RX6 yX6_choose wsX6_choose) := goodIn_app (goodIn_of _ (by decide +kernel)) ggX6_know_X6_choose
set_option maxRecDepth 20000 in
theorem ggX6_know_X6_write : GoodIn wsX6_know wsX6_write := goodIn_r _ [54, 55, 6, 41, 2, 13, 12, 18, 56, 57, 58, 10, 59, 60, 61, 62, 63, 64, 65, 66, 67, 68, 69, 70, 71, 72, 73, 74, 75, 76, 77, 78, 79, 80, 81, 82, 83, 84, 85, 86, 87, 88, 89, 90, 91, 92, 93, 94, 95, 96, 97, 98, 99, 100, 101, 102, 103, 104, 105] rfl (by decide +kernel)
set_option maxRecDepth 20000 in
theorem gX6_know_X6_write : GoodIn wsX6_know (wsV RX6 218 RX6 yX6_write wsX6_write) := goodIn_app (goodIn_of _ (by decide +kernel)) ggX6_know_X6_write
set_option maxRecDepth 20000 in
theorem ggX6_step_X6_row : GoodIn wsX6_step wsX6_row := goodIn_r _ [5, 6, 7, 8, 9, 10, 11, 12, 13, 14, 15, 16, 17, 18, 19, 20, 21, 22, 23, 24, 25, 26, 27, 28, 29, 30, 31, 32, 33, 34, 35, 36, 37, 38, 39, 40, 41, 42, 43, 44, 45, 46, 47, 48] rfl (by decide +kernel)
set_option maxRecDepth 20000 in
theorem gX6_step_X6_row : GoodIn wsX6_step (wsV RX6 224 RX6 yX6_row wsX6_row) := goodIn_app (goodIn_of _ (by decide +kernel)) ggX6_step_X6_row
set_option maxRecDepth 20000 in
theorem ggX6_write_X6_step : GoodIn wsX6_write wsX6_step := goodIn_r _ [12, 13, 14, 15, 11, 16, 17, 1, 18, 19, 20, 21, 22, 23, 24, 25, 26, 27, 28, 29, 30, 31, 32, 33, 34, 35, 36, 37, 38, 39, 40, 41, 42, 43, 44, 45, 46, 47, 48, 49, 50, 51, 52, 53, 54, 55, 56, 57, 58] rfl (by decide +kernel)
set_option maxRecDepth 20000 in
theorem gX6_write_X6_step : GoodIn wsX6_write (wsV RX6 228 RX6 yX6_step wsX6_step) := goodIn_app (goodIn_of _ (by decide +kernel)) ggX6_write_X6_step
set_option maxRecDepth 20000 in
theorem ggX6_write_X6_row : GoodIn wsX6_write wsX6_row := goodIn_r _ [16, 17, 1, 18, 19, 20, 21, 22, 23, 24, 25, 26, 27, 28, 29, 30, 31, 32, 33, 34, 35, 36, 37, 38, 39, 40, 41, 42, 43, 44, 45, 46, 47, 48, 49, 50, 51, 52, 53, 54, 55, 56, 57, 58] rfl (by decide +kernel)
set_option maxRecDepth 20000 in
theorem gX6_write_X6_row : GoodIn wsX6_write (wsV RX6 224 RX6 yX6_row wsX6_row) := goodIn_app (goodIn_of _ (by decide +kernel)) ggX6_write_X6_row
set_option maxRecDepth 20000 in
theorem ggX6_told_X6_know : GoodIn wsX6_told wsX6_know := goodIn_r _ [12, 13, 14, 5, 15, 16, 6, 17, 18, 19, 11, 20, 2, 3, 21, 22, 23, 24, 4, 25, 26, 27, 28, 29, 30, 31, 32, 33, 34, 35, 36, 37, 38, 39, 40, 41, 42, 43, 44, 45, 46, 47, 48, 49, 50, 51, 52, 53, 54, 55, 56, 57, 58, 59, 60, 7, 61, 62, 63, 64, 65, 66, 67, 68, 69, 70, 71, 72, 73, 74, 75, 76, 77, 78, 79, 80, 81, 82, 83, 84, 85, 86, 87, 88, 89, 90, 91, 92, 93, 94, 95, 96, 97, 98, 99, 100, 101, 102, 103, 104, 105, 106, 107, 108, 109, 110] rfl (by decide +kernel)
set_option maxRecDepth 20000 in
theorem gX6_told_X6_know : GoodIn wsX6_told (wsV RX6 231 RX6 yX6_know wsX6_know) := goodIn_app (goodIn_of _ (by decide +kernel)) ggX6_told_X6_know
set_option maxRecDepth 20000 in
theorem ggX6_answer_X6_patterns : GoodIn wsX6_answer wsX6_patterns := goodIn_r _ [6, 7, 8, 33, 34, 35, 36, 37, 38, 39, 40, 41, 42, 43, 44, 45, 46, 47, 48, 49, 50, 51, 52, 53, 54, 55, 56, 57, 58, 59, 60, 61, 62, 63, 64, 65, 66, 67, 68, 69, 70, 71, 72, 73] rfl (by decide +kernel)
set_option maxRecDepth 20000 in
theorem gX6_answer_X6_patterns : GoodIn wsX6_answer (wsV RX6 192 RX6 yX6_patterns wsX6_patterns) := goodIn_app (goodIn_of _ (by decide +kernel)) ggX6_answer_X6_patterns
set_option maxRecDepth 20000 in
theorem ggX6_answer_X6_noStuck : GoodIn wsX6_answer wsX6_noStuck := goodIn_r _ [12, 13, 33, 34, 35, 36, 37, 38, 39, 40, 41, 42, 43, 44, 45, 46, 47, 48, 49, 50, 51, 52, 53, 54, 55, 56, 57, 58, 59, 60, 61, 62, 63, 64, 65, 66, 67, 68, 69, 70, 71, 72, 73] rfl (by decide +kernel)
set_option maxRecDepth 20000 in
theorem gX6_answer_X6_noStuck : GoodIn wsX6_answer (wsV RX6 234 RX6 yX6_noStuck wsX6_noStuck) := goodIn_app (goodIn_of _ (by decide +kernel)) ggX6_answer_X6_noStuck
set_option maxRecDepth 20000 in
theorem ggX6_answer_X6_answerOf : GoodIn wsX6_answer wsX6_answerOf := goodIn_r _ [17, 18, 19, 20, 8, 21, 7, 22, 23, 24, 5, 25, 13, 26, 27, 28, 29, 30, 31, 32, 33, 34, 35, 36, 37, 38, 39, 40, 41, 42, 43, 44, 45, 46, 47, 48, 49, 50, 51, 52, 53, 54, 55, 56, 57, 58, 59, 60, 61, 62, 63, 64, 65, 66, 67, 68, 69, 70, 71, 72, 73] rfl (by decide +kernel)
set_option maxRecDepth 20000 in
theorem gX6_answer_X6_answerOf : GoodIn wsX6_answer (wsV RX6 208 RX6 yX6_answerOf wsX6_answerOf) := goodIn_app (goodIn_of _ (by decide +kernel)) ggX6_answer_X6_answerOf
set_option maxRecDepth 20000 in
theorem ggX6_shows_X6_noStuck : GoodIn wsX6_shows wsX6_noStuck := goodIn_r _ [7, 8, 74, 75, 76, 77, 78, 79, 80, 81, 82, 83, 84, 85, 86, 87, 88, 89, 90, 91, 92, 93, 94, 95, 96, 97, 98, 99, 100, 101, 102, 103, 104, 105, 106, 107, 108, 109, 110, 111, 112, 113, 114] rfl (by decide +kernel)
set_option maxRecDepth 20000 in
theorem gX6_shows_X6_noStuck : GoodIn wsX6_shows (wsV RX6 234 RX6 yX6_noStuck wsX6_noStuck) := goodIn_app (goodIn_of _ (by decide +kernel)) ggX6_shows_X6_noStuck
set_option maxRecDepth 20000 in
theorem ggX6_shows_X6_know : GoodIn wsX6_shows wsX6_know := goodIn_r _ [12, 13, 14, 15, 8, 2, 16, 17, 18, 19, 6, 20, 21, 22, 23, 24, 25, 26, 27, 28, 29, 30, 31, 32, 33, 34, 35, 36, 37, 38, 39, 40, 41, 42, 43, 44, 45, 46, 47, 48, 49, 50, 51, 52, 53, 54, 55, 56, 57, 58, 59, 60, 61, 62, 63, 64, 65, 66, 67, 68, 69, 70, 71, 72, 73, 74, 75, 76, 77, 78, 79, 80, 81, 82, 83, 84, 85, 86, 87, 88, 89, 90, 91, 92, 93, 94, 95, 96, 97, 98, 99, 100, 101, 102, 103, 104, 105, 106, 107, 108, 109, 110, 111, 112, 113, 114] rfl (by decide +kernel)
set_option maxRecDepth 20000 in
theorem gX6_shows_X6_know : GoodIn wsX6_shows (wsV RX6 231 RX6 yX6_know wsX6_know) := goodIn_app (goodIn_of _ (by decide +kernel)) ggX6_shows_X6_know
set_option maxRecDepth 20000 in
theorem ggX6_shows_X6_patterns : GoodIn wsX6_shows wsX6_patterns := goodIn_r _ [20, 21, 22, 74, 75, 76, 77, 78, 79, 80, 81, 82, 83, 84, 85, 86, 87, 88, 89, 90, 91, 92, 93, 94, 95, 96, 97, 98, 99, 100, 101, 102, 103, 104, 105, 106, 107, 108, 109, 110, 111, 112, 113, 114] rfl (by decide +kernel)
set_option maxRecDepth 20000 in
theorem gX6_shows_X6_patterns : GoodIn wsX6_shows (wsV RX6 192 RX6 yX6_patterns wsX6_patterns) := goodIn_app (goodIn_of _ (by decide +kernel)) ggX6_shows_X6_patterns
set_option maxRecDepth 20000 in
theorem ggX6_shows_X6_leastOf : GoodIn wsX6_shows wsX6_leastOf := goodIn_r _ [45, 2, 17, 18, 19, 6, 20, 21, 22, 74, 75, 76, 77, 78, 79, 80, 81, 82, 83, 84, 85, 86, 87, 88, 89, 90, 91, 92, 93, 94, 95, 96, 97, 98, 99, 100, 101, 102, 103, 104, 105, 106, 107, 108, 109, 110, 111, 112, 113, 114] rfl (by decide +kernel)
set_option maxRecDepth 20000 in
theorem gX6_shows_X6_leastOf : GoodIn wsX6_shows (wsV RX6 195 RX6 yX6_leastOf wsX6_leastOf) := goodIn_app (goodIn_of _ (by decide +kernel)) ggX6_shows_X6_leastOf
set_option maxRecDepth 20000 in
theorem ggX6_shows_X6_fixOf : GoodIn wsX6_shows wsX6_fixOf := goodIn_r _ [59, 21, 22, 42, 43, 44, 6, 45, 2, 17, 18, 19, 20, 52, 53, 54, 55, 74, 75, 76, 77, 78, 79, 80, 81, 82, 83, 84, 85, 86, 87, 88, 89, 90, 91, 92, 93, 94, 95, 96, 97, 98, 99, 100, 101, 102, 103, 104, 105, 106, 107, 108, 109, 110, 111, 112, 113, 114] rfl (by decide +kernel)
set_option maxRecDepth 20000 in
theorem gX6_shows_X6_fixOf : GoodIn wsX6_shows (wsV RX6 205 RX6 yX6_fixOf wsX6_fixOf) := goodIn_app (goodIn_of _ (by decide +kernel)) ggX6_shows_X6_fixOf
set_option maxRecDepth 20000 in
theorem ggX6_test_X6_know : GoodIn wsX6_test wsX6_know := goodIn_r _ [8, 9, 10, 11, 12, 13, 1, 14, 15, 16, 7, 17, 18, 19, 20, 21, 22, 23, 24, 25, 26, 27, 28, 29, 30, 31, 32, 33, 34, 35, 36, 37, 38, 39, 40, 41, 42, 43, 44, 45, 46, 3, 47, 48, 49, 50, 51, 52, 53, 54, 55, 56, 57, 58, 59, 60, 61, 62, 63, 64, 65, 66, 67, 68, 69, 70, 71, 72, 73, 74, 75, 76, 77, 78, 79, 80, 81, 82, 83, 84, 85, 86, 87, 88, 89, 90, 91, 92, 93, 94, 95, 96, 97, 98, 99, 100, 101, 102, 103, 104, 105, 106, 107, 108, 109, 110] rfl (by decide +kernel)
set_option maxRecDepth 20000 in
theorem gX6_test_X6_know : GoodIn wsX6_test (wsV RX6 231 RX6 yX6_know wsX6_know) := goodIn_app (goodIn_of _ (by decide +kernel)) ggX6_test_X6_know
set_option maxRecDepth 20000 in
theorem ggX6_row__X6_know : GoodIn wsX6_row_ wsX6_know := goodIn_r _ [8, 9, 10, 11, 12, 13, 14, 15, 16, 17, 7, 18, 19, 20, 21, 22, 23, 24, 25, 26, 27, 28, 29, 30, 31, 32, 33, 34, 35, 36, 37, 38, 39, 40, 41, 42, 43, 44, 45, 46, 47, 48, 49, 50, 51, 52, 53, 54, 55, 56, 57, 58, 59, 60, 61, 1, 62, 63, 64, 65, 66, 67, 68, 69, 3, 70, 71, 72, 73, 74, 75, 76, 77, 78, 79, 80, 81, 82, 83, 84, 85, 86, 87, 88, 89, 90, 91, 92, 93, 94, 95, 96, 97, 98, 99, 100, 101, 102, 103, 104, 105, 106, 107, 108, 109, 110] rfl (by decide +kernel)
set_option maxRecDepth 20000 in
theorem gX6_row__X6_know : GoodIn wsX6_row_ (wsV RX6 231 RX6 yX6_know wsX6_know) := goodIn_app (goodIn_of _ (by decide +kernel)) ggX6_row__X6_know
set_option maxRecDepth 20000 in
theorem ggX6_clockOne_X6_answerOf : GoodIn wsX6_clockOne wsX6_answerOf := goodIn_r _ [14, 4, 15, 16, 8, 17, 2, 18, 19, 20, 13, 21, 22, 23, 24, 25, 26, 27, 28, 29, 33, 34, 35, 36, 37, 38, 39, 40, 41, 42, 43, 44, 45, 46, 47, 48, 49, 50, 51, 52, 53, 54, 55, 56, 57, 58, 59, 60, 61, 62, 63, 64, 65, 66, 67, 68, 69, 70, 71, 72, 73] rfl (by decide +kernel)
set_option maxRecDepth 20000 in
theorem gX6_clockOne_X6_answerOf : GoodIn wsX6_clockOne (wsV RX6 208 RX6 yX6_answerOf wsX6_answerOf) := goodIn_app (goodIn_of _ (by decide +kernel)) ggX6_clockOne_X6_answerOf
set_option maxRecDepth 20000 in
theorem ggX6_clockOne_X6_after : GoodIn wsX6_clockOne wsX6_after := goodIn_r _ [32] rfl (by decide +kernel)
set_option maxRecDepth 20000 in
theorem gX6_clockOne_X6_after : GoodIn wsX6_clockOne (va_wsS RX6 250 yX6_after wsX6_after) := goodIn_app (goodIn_of _ (by decide +kernel)) ggX6_clockOne_X6_after
set_option maxRecDepth 20000 in
theorem ggX6_failsAt_X6_newChip : GoodIn wsX6_failsAt wsX6_newChip := goodIn_r _ [13, 1, 2, 3, 4, 5, 6, 43, 44, 45, 46, 47, 48, 49, 50, 51, 52, 53, 54, 55, 56, 57, 58, 59, 60, 61, 62, 63, 64, 65, 66, 67, 68, 69, 70, 71, 72, 73, 74, 75, 76, 77, 78, 79, 80, 81, 82, 83] rfl (by decide +kernel)
set_option maxRecDepth 20000 in
theorem gX6_failsAt_X6_newChip : GoodIn wsX6_failsAt (wsV RX6 183 RX6 yX6_newChip wsX6_newChip) := goodIn_app (goodIn_of _ (by decide +kernel)) ggX6_failsAt_X6_newChip
set_option maxRecDepth 20000 in
theorem ggX6_failsAt_X6_clockOne : GoodIn wsX6_failsAt wsX6_clockOne := goodIn_r _ [17, 4, 18, 1, 19, 2, 3, 5, 20, 6, 21, 22, 23, 12, 24, 25, 26, 27, 28, 29, 30, 31, 32, 33, 34, 35, 36, 37, 38, 39, 40, 41, 42, 43, 44, 45, 46, 47, 48, 49, 50, 51, 52, 53, 54, 55, 56, 57, 58, 59, 60, 61, 62, 63, 64, 65, 66, 67, 68, 69, 70, 71, 72, 73, 74, 75, 76, 77, 78, 79, 80, 81, 82, 83] rfl (by decide +kernel)
set_option maxRecDepth 20000 in
theorem gX6_failsAt_X6_clockOne : GoodIn wsX6_failsAt (wsV RX6 253 RX6 yX6_clockOne wsX6_clockOne) := goodIn_app (goodIn_of _ (by decide +kernel)) ggX6_failsAt_X6_clockOne
set_option maxRecDepth 20000 in
theorem ggX6_fails_X6_noStuck : GoodIn wsX6_fails wsX6_noStuck := goodIn_r _ [6, 7, 95, 96, 97, 98, 99, 100, 101, 102, 103, 104, 105, 106, 107, 108, 109, 110, 111, 112, 113, 114, 115, 116, 117, 118, 119, 120, 121, 122, 123, 124, 125, 126, 127, 128, 129, 130, 131, 132, 133, 134, 135] rfl (by decide +kernel)
set_option maxRecDepth 20000 in
theorem gX6_fails_X6_noStuck : GoodIn wsX6_fails (wsV RX6 234 RX6 yX6_noStuck wsX6_noStuck) := goodIn_app (goodIn_of _ (by decide +kernel)) ggX6_fails_X6_noStuck
set_option maxRecDepth 20000 in
theorem ggX6_fails_X6_know : GoodIn wsX6_fails wsX6_know := goodIn_r _ [11, 12, 13, 14, 7, 15, 16, 17, 18, 19, 5, 20, 21, 22, 23, 24, 25, 26, 27, 28, 29, 30, 31, 32, 33, 34, 35, 36, 37, 38, 39, 40, 41, 42, 43, 44, 45, 46, 47, 48, 49, 50, 51, 52, 53, 54, 55, 56, 57, 58, 59, 60, 61, 62, 63, 64, 65, 66, 67, 68, 69, 70, 71, 72, 73, 95, 96, 97, 98, 99, 100, 101, 102, 103, 104, 105, 106, 107, 108, 109, 110, 111, 112, 113, 114, 115, 116, 117, 118, 119, 120, 121, 122, 123, 124, 125, 126, 127, 128, 129, 130, 131, 132, 133, 134, 135] rfl (by decide +kernel)
set_option maxRecDepth 20000 in
theorem gX6_fails_X6_know : GoodIn wsX6_fails (wsV RX6 231 RX6 yX6_know wsX6_know) := goodIn_app (goodIn_of _ (by decide +kernel)) ggX6_fails_X6_know
set_option maxRecDepth 20000 in
theorem ggX6_fails_X6_failsAt : GoodIn wsX6_fails wsX6_failsAt := goodIn_r _ [77, 78, 79, 80, 81, 82, 83, 64, 73, 84, 85, 86, 5, 87, 88, 89, 90, 91, 21, 27, 22, 23, 24, 25, 26, 28, 29, 30, 31, 32, 33, 34, 7, 35, 36, 37, 38, 39, 40, 41, 92, 93, 94, 95, 96, 97, 98, 99, 100, 101, 102, 103, 104, 105, 106, 107, 108, 109, 110, 111, 112, 113, 114, 115, 116, 117, 118, 119, 120, 121, 122, 123, 124, 125, 126, 127, 128, 129, 130, 131, 132, 133, 134, 135] rfl (by decide +kernel)
set_option maxRecDepth 20000 in
theorem gX6_fails_X6_failsAt : GoodIn wsX6_fails (wsV RX6 257 RX6 yX6_failsAt wsX6_failsAt) := goodIn_app (goodIn_of _ (by decide +kernel)) ggX6_fails_X6_failsAt
set_option maxRecDepth 20000 in
theorem ggX6_escapes_X6_know : GoodIn wsX6_escapes wsX6_know := goodIn_r _ [7, 8, 9, 10, 2, 11, 12, 13, 14, 15, 6, 16, 17, 18, 19, 20, 21, 22, 23, 24, 25, 26, 27, 28, 29, 30, 31, 32, 33, 34, 35, 36, 37, 38, 39, 40, 41, 42, 43, 44, 45, 46, 47, 48, 49, 50, 51, 52, 53, 54, 55, 56, 57, 58, 59, 60, 61, 62, 63, 64, 65, 66, 67, 68, 69, 91, 92, 93, 94, 95, 96, 97, 98, 99, 100, 101, 102, 103, 104, 105, 106, 107, 108, 109, 110, 111, 112, 113, 114, 115, 116, 117, 118, 119, 120, 121, 122, 123, 124, 125, 126, 127, 128, 129, 130, 131] rfl (by decide +kernel)
set_option maxRecDepth 20000 in
theorem gX6_escapes_X6_know : GoodIn wsX6_escapes (wsV RX6 231 RX6 yX6_know wsX6_know) := goodIn_app (goodIn_of _ (by decide +kernel)) ggX6_escapes_X6_know
set_option maxRecDepth 20000 in
theorem ggX6_escapes_X6_leastOf : GoodIn wsX6_escapes wsX6_leastOf := goodIn_r _ [41, 11, 13, 14, 15, 6, 16, 17, 18, 91, 92, 93, 94, 95, 96, 97, 98, 99, 100, 101, 102, 103, 104, 105, 106, 107, 108, 109, 110, 111, 112, 113, 114, 115, 116, 117, 118, 119, 120, 121, 122, 123, 124, 125, 126, 127, 128, 129, 130, 131] rfl (by decide +kernel)
set_option maxRecDepth 20000 in
theorem gX6_escapes_X6_leastOf : GoodIn wsX6_escapes (wsV RX6 195 RX6 yX6_leastOf wsX6_leastOf) := goodIn_app (goodIn_of _ (by decide +kernel)) ggX6_escapes_X6_leastOf
set_option maxRecDepth 20000 in
theorem ggX6_escapes_X6_failsAt : GoodIn wsX6_escapes wsX6_failsAt := goodIn_r _ [73, 74, 75, 76, 77, 78, 79, 60, 69, 80, 81, 82, 6, 83, 84, 85, 86, 87, 17, 23, 18, 19, 20, 21, 22, 24, 25, 26, 27, 28, 29, 30, 2, 31, 32, 33, 34, 35, 36, 37, 88, 89, 90, 91, 92, 93, 94, 95, 96, 97, 98, 99, 100, 101, 102, 103, 104, 105, 106, 107, 108, 109, 110, 111, 112, 113, 114, 115, 116, 117, 118, 119, 120, 121, 122, 123, 124, 125, 126, 127, 128, 129, 130, 131] rfl (by decide +kernel)
set_option maxRecDepth 20000 in
theorem gX6_escapes_X6_failsAt : GoodIn wsX6_escapes (wsV RX6 257 RX6 yX6_failsAt wsX6_failsAt) := goodIn_app (goodIn_of _ (by decide +kernel)) ggX6_escapes_X6_failsAt
set_option maxRecDepth 20000 in
theorem ggX6_chip_X6_noStuck : GoodIn wsX6_chip wsX6_noStuck := goodIn_r _ [6, 7, 18, 19, 20, 21, 22, 23, 24, 25, 26, 27, 28, 29, 30, 31, 32, 33, 34, 35, 36, 37, 38, 39, 40, 41, 42, 43, 44, 45, 46, 47, 48, 49, 50, 51, 52, 53, 54, 55, 56, 57, 58] rfl (by decide +kernel)
set_option maxRecDepth 20000 in
theorem gX6_chip_X6_noStuck : GoodIn wsX6_chip (wsV RX6 234 RX6 yX6_noStuck wsX6_noStuck) := goodIn_app (goodIn_of _ (by decide +kernel)) ggX6_chip_X6_noStuck
set_option maxRecDepth 20000 in
theorem ggX6_chip_X6_newChip : GoodIn wsX6_chip wsX6_newChip := goodIn_r _ [11, 12, 13, 14, 15, 16, 17, 18, 19, 20, 21, 22, 23, 24, 25, 26, 27, 28, 29, 30, 31, 32, 33, 34, 35, 36, 37, 38, 39, 40, 41, 42, 43, 44, 45, 46, 47, 48, 49, 50, 51, 52, 53, 54, 55, 56, 57, 58] rfl (by decide +kernel)
set_option maxRecDepth 20000 in
theorem gX6_chip_X6_newChip : GoodIn wsX6_chip (wsV RX6 183 RX6 yX6_newChip wsX6_newChip) := goodIn_app (goodIn_of _ (by decide +kernel)) ggX6_chip_X6_newChip
set_option maxRecDepth 20000 in
theorem ggX6_clock_X6_clockOne : GoodIn wsX6_clock wsX6_clockOne := goodIn_r _ [7, 8, 1, 9, 10, 11, 12, 13, 14, 15, 16, 17, 18, 6, 19, 20, 21, 22, 23, 24, 25, 26, 27, 28, 29, 30, 31, 32, 33, 34, 35, 36, 37, 38, 39, 40, 41, 42, 43, 44, 45, 46, 47, 48, 49, 50, 51, 52, 53, 54, 55, 56, 57, 58, 59, 60, 61, 62, 63, 64, 65, 66, 67, 68, 69, 70, 71, 72, 73, 74, 75, 76, 77, 78] rfl (by decide +kernel)
set_option maxRecDepth 20000 in
theorem gX6_clock_X6_clockOne : GoodIn wsX6_clock (wsV RX6 253 RX6 yX6_clockOne wsX6_clockOne) := goodIn_app (goodIn_of _ (by decide +kernel)) ggX6_clock_X6_clockOne
