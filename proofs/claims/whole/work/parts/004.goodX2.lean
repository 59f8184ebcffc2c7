set_option maxRecDepth 20000 in
theorem ggX2_clear_J7_fill_53178 : GoodIn wsX2_clear wsJ7_fill_53178 := goodIn_r _ [9] rfl (by decide +kernel)
set_option maxRecDepth 20000 in
theorem gX2_clear_J7_fill_53178 : GoodIn wsX2_clear (va_wsS RX2 44 yJ7_fill_53178 wsJ7_fill_53178) := goodIn_app (goodIn_of _ (by decide +kernel)) ggX2_clear_J7_fill_53178
set_option maxRecDepth 20000 in
theorem ggX2_isFlop_X2_sources : GoodIn wsX2_isFlop wsX2_sources := goodIn_r _ [6, 1, 7, 8, 9, 10, 11, 12, 13, 14, 15, 16, 17] rfl (by decide +kernel)
set_option maxRecDepth 20000 in
theorem gX2_isFlop_X2_sources : GoodIn wsX2_isFlop (wsV RX2 56 RX2 yX2_sources wsX2_sources) := goodIn_app (goodIn_of _ (by decide +kernel)) ggX2_isFlop_X2_sources
set_option maxRecDepth 20000 in
theorem ggX2_respond_X2_sources : GoodIn wsX2_respond wsX2_sources := goodIn_r _ [9, 10, 4, 29, 30, 31, 32, 33, 34, 35, 36, 37, 38] rfl (by decide +kernel)
set_option maxRecDepth 20000 in
theorem gX2_respond_X2_sources : GoodIn wsX2_respond (wsV RX2 56 RX2 yX2_sources wsX2_sources) := goodIn_app (goodIn_of _ (by decide +kernel)) ggX2_respond_X2_sources
set_option maxRecDepth 20000 in
theorem ggX2_respond_X2_settle : GoodIn wsX2_respond wsX2_settle := goodIn_r _ [14, 15, 1, 5, 6, 7, 8, 9, 10, 4, 16, 17, 18, 19, 20, 21, 22, 23, 29, 30, 31, 32, 33, 34, 35, 36, 37, 38] rfl (by decide +kernel)
set_option maxRecDepth 20000 in
theorem gX2_respond_X2_settle : GoodIn wsX2_respond (wsV RX2 60 RX2 yX2_settle wsX2_settle) := goodIn_app (goodIn_of _ (by decide +kernel)) ggX2_respond_X2_settle
set_option maxRecDepth 20000 in
theorem ggX2_respond_X2_nextBit : GoodIn wsX2_respond wsX2_nextBit := goodIn_r _ [27, 28, 10, 1, 29, 30, 31, 32, 33, 34, 35, 36, 37, 38] rfl (by decide +kernel)
set_option maxRecDepth 20000 in
theorem gX2_respond_X2_nextBit : GoodIn wsX2_respond (wsV RX2 64 RX2 yX2_nextBit wsX2_nextBit) := goodIn_app (goodIn_of _ (by decide +kernel)) ggX2_respond_X2_nextBit
set_option maxRecDepth 20000 in
theorem ggX2_spread_X2_sources : GoodIn wsX2_spread wsX2_sources := goodIn_r _ [7, 8, 9, 10, 11, 12, 13, 14, 15, 16, 17, 18, 19] rfl (by decide +kernel)
set_option maxRecDepth 20000 in
theorem gX2_spread_X2_sources : GoodIn wsX2_spread (wsV RX2 56 RX2 yX2_sources wsX2_sources) := goodIn_app (goodIn_of _ (by decide +kernel)) ggX2_spread_X2_sources
set_option maxRecDepth 20000 in
theorem ggX2_settle_X2_sources : GoodIn wsX2_settle wsX2_sources := goodIn_r _ [7, 8, 9, 18, 19, 20, 21, 22, 23, 24, 25, 26, 27] rfl (by decide +kernel)
set_option maxRecDepth 20000 in
theorem gX2_settle_X2_sources : GoodIn wsX2_settle (wsV RX2 56 RX2 yX2_sources wsX2_sources) := goodIn_app (goodIn_of _ (by decide +kernel)) ggX2_settle_X2_sources
set_option maxRecDepth 20000 in
theorem ggX2_settle_X2_gate : GoodIn wsX2_settle wsX2_gate := goodIn_r _ [13, 14, 2, 15, 16, 17, 18, 19, 20, 21, 22, 23, 24, 25, 26, 27] rfl (by decide +kernel)
set_option maxRecDepth 20000 in
theorem gX2_settle_X2_gate : GoodIn wsX2_settle (wsV RX2 71 RX2 yX2_gate wsX2_gate) := goodIn_app (goodIn_of _ (by decide +kernel)) ggX2_settle_X2_gate
