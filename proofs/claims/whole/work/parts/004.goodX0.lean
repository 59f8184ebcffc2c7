set_option maxRecDepth 20000 in
theorem ggX0_outputs_X0_patternWith : GoodIn wsX0_outputs wsX0_patternWith := goodIn_r _ [7, 8, 1, 45, 46, 47, 48, 49, 50, 51, 52, 53, 54, 55, 56, 57, 58, 59, 60, 61] rfl (by decide +kernel)
set_option maxRecDepth 20000 in
theorem gX0_outputs_X0_patternWith : GoodIn wsX0_outputs (wsV RX0 34 RX0 yX0_patternWith wsX0_patternWith) := goodIn_app (goodIn_of _ (by decide +kernel)) ggX0_outputs_X0_patternWith
set_option maxRecDepth 20000 in
theorem ggX0_outputs_X2_respond : GoodIn wsX0_outputs wsX2_respond := goodIn_r _ [13, 14, 15, 16, 17, 18, 19, 20, 12, 21, 22, 23, 24, 25, 26, 27, 28, 29, 30, 31, 32, 33, 34, 35, 36, 37, 38, 39, 40, 52, 53, 54, 55, 56, 57, 58, 59, 60, 61] rfl (by decide +kernel)
set_option maxRecDepth 20000 in
theorem gX0_outputs_X2_respond : GoodIn wsX0_outputs (wsV RX0 38 RX2 yX2_respond wsX2_respond) := goodIn_app (goodIn_of _ (by decide +kernel)) ggX0_outputs_X2_respond
set_option maxRecDepth 20000 in
theorem ggX0_outputs_X2_outputsOf : GoodIn wsX0_outputs wsX2_outputsOf := goodIn_r _ [44, 15, 52, 53, 54, 55, 56, 57, 58, 59, 60, 61] rfl (by decide +kernel)
set_option maxRecDepth 20000 in
theorem gX0_outputs_X2_outputsOf : GoodIn wsX0_outputs (wsV RX0 44 RX2 yX2_outputsOf wsX2_outputsOf) := goodIn_app (goodIn_of _ (by decide +kernel)) ggX0_outputs_X2_outputsOf
set_option maxRecDepth 20000 in
theorem ggX0_pulse_X0_idle : GoodIn wsX0_pulse wsX0_idle := goodIn_r _ [9, 2, 10, 11, 12, 13, 14, 15, 8, 16, 17, 18, 19, 20, 21, 22, 23, 24, 25, 26, 27, 28, 29, 30, 31, 32, 33, 34, 35, 36, 37, 38, 39, 40, 41, 42, 43, 44, 45, 46, 47, 48, 49, 50, 51, 52, 62, 63, 64, 65, 66, 67, 68, 69, 70, 71, 72, 73, 74, 75, 76, 77, 78] rfl (by decide +kernel)
set_option maxRecDepth 20000 in
theorem gX0_pulse_X0_idle : GoodIn wsX0_pulse (wsV RX0 50 RX0 yX0_idle wsX0_idle) := goodIn_app (goodIn_of _ (by decide +kernel)) ggX0_pulse_X0_idle
set_option maxRecDepth 20000 in
theorem ggX0_pulse_X0_capture : GoodIn wsX0_pulse wsX0_capture := goodIn_r _ [56, 2, 10, 11, 12, 57, 13, 14, 15, 8, 16, 17, 18, 19, 20, 21, 22, 23, 24, 25, 26, 27, 28, 29, 30, 31, 32, 33, 34, 35, 36, 37, 38, 39, 40, 41, 42, 43, 44, 45, 46, 47, 48, 49, 50, 51, 52, 62, 63, 64, 65, 66, 67, 68, 69, 70, 71, 72, 73, 74, 75, 76, 77, 78] rfl (by decide +kernel)
set_option maxRecDepth 20000 in
theorem gX0_pulse_X0_capture : GoodIn wsX0_pulse (wsV RX0 54 RX0 yX0_capture wsX0_capture) := goodIn_app (goodIn_of _ (by decide +kernel)) ggX0_pulse_X0_capture
set_option maxRecDepth 20000 in
theorem ggX0_pulse_X0_shift : GoodIn wsX0_pulse wsX0_shift := goodIn_r _ [61, 2, 12, 10, 57, 62, 63, 64, 65, 66, 67, 68, 69, 70, 71, 72, 73, 74, 75, 76, 77, 78] rfl (by decide +kernel)
set_option maxRecDepth 20000 in
theorem gX0_pulse_X0_shift : GoodIn wsX0_pulse (wsV RX0 57 RX0 yX0_shift wsX0_shift) := goodIn_app (goodIn_of _ (by decide +kernel)) ggX0_pulse_X0_shift
set_option maxRecDepth 20000 in
theorem ggX0_idle_X0_patternWith : GoodIn wsX0_idle wsX0_patternWith := goodIn_r _ [9, 4, 2, 46, 47, 48, 49, 50, 51, 52, 53, 54, 55, 56, 57, 58, 59, 60, 61, 62] rfl (by decide +kernel)
set_option maxRecDepth 20000 in
theorem gX0_idle_X0_patternWith : GoodIn wsX0_idle (wsV RX0 34 RX0 yX0_patternWith wsX0_patternWith) := goodIn_app (goodIn_of _ (by decide +kernel)) ggX0_idle_X0_patternWith
set_option maxRecDepth 20000 in
theorem ggX0_idle_X2_respond : GoodIn wsX0_idle wsX2_respond := goodIn_r _ [14, 15, 16, 17, 18, 19, 20, 21, 13, 22, 23, 24, 25, 26, 27, 28, 29, 30, 31, 32, 33, 34, 35, 36, 37, 38, 39, 40, 41, 53, 54, 55, 56, 57, 58, 59, 60, 61, 62] rfl (by decide +kernel)
set_option maxRecDepth 20000 in
theorem gX0_idle_X2_respond : GoodIn wsX0_idle (wsV RX0 38 RX2 yX2_respond wsX2_respond) := goodIn_app (goodIn_of _ (by decide +kernel)) ggX0_idle_X2_respond
set_option maxRecDepth 20000 in
theorem ggX0_idle_X2_nextsOf : GoodIn wsX0_idle wsX2_nextsOf := goodIn_r _ [45, 16, 53, 54, 55, 56, 57, 58, 59, 60, 61, 62] rfl (by decide +kernel)
set_option maxRecDepth 20000 in
theorem gX0_idle_X2_nextsOf : GoodIn wsX0_idle (wsV RX0 67 RX2 yX2_nextsOf wsX2_nextsOf) := goodIn_app (goodIn_of _ (by decide +kernel)) ggX0_idle_X2_nextsOf
set_option maxRecDepth 20000 in
theorem ggX0_capture_X0_patternWith : GoodIn wsX0_capture wsX0_patternWith := goodIn_r _ [10, 4, 2, 47, 48, 49, 50, 51, 52, 53, 54, 55, 56, 57, 58, 59, 60, 61, 62, 63] rfl (by decide +kernel)
set_option maxRecDepth 20000 in
theorem gX0_capture_X0_patternWith : GoodIn wsX0_capture (wsV RX0 34 RX0 yX0_patternWith wsX0_patternWith) := goodIn_app (goodIn_of _ (by decide +kernel)) ggX0_capture_X0_patternWith
set_option maxRecDepth 20000 in
theorem ggX0_capture_X2_respond : GoodIn wsX0_capture wsX2_respond := goodIn_r _ [15, 16, 17, 18, 19, 20, 21, 22, 14, 23, 24, 25, 26, 27, 28, 29, 30, 31, 32, 33, 34, 35, 36, 37, 38, 39, 40, 41, 42, 54, 55, 56, 57, 58, 59, 60, 61, 62, 63] rfl (by decide +kernel)
set_option maxRecDepth 20000 in
theorem gX0_capture_X2_respond : GoodIn wsX0_capture (wsV RX0 38 RX2 yX2_respond wsX2_respond) := goodIn_app (goodIn_of _ (by decide +kernel)) ggX0_capture_X2_respond
set_option maxRecDepth 20000 in
theorem ggX0_capture_X2_nextsOf : GoodIn wsX0_capture wsX2_nextsOf := goodIn_r _ [46, 17, 54, 55, 56, 57, 58, 59, 60, 61, 62, 63] rfl (by decide +kernel)
set_option maxRecDepth 20000 in
theorem gX0_capture_X2_nextsOf : GoodIn wsX0_capture (wsV RX0 67 RX2 yX2_nextsOf wsX2_nextsOf) := goodIn_app (goodIn_of _ (by decide +kernel)) ggX0_capture_X2_nextsOf
