set_option maxRecDepth 20000 in
theorem ggX3_init_X0_init : GoodIn wsX3_init wsX0_init := goodIn_r _ [12, 13, 2, 3, 14, 15, 16, 17, 21, 22, 23, 24, 25, 26, 27] rfl (by decide +kernel)
set_option maxRecDepth 20000 in
theorem gX3_init_X0_init : GoodIn wsX3_init (wsX0_init) := ggX3_init_X0_init
set_option maxRecDepth 20000 in
theorem ggX3_rowCount_X3_stepsOfTest : GoodIn wsX3_rowCount wsX3_stepsOfTest := goodIn_r _ [6, 7, 8, 9, 10, 22, 23, 24, 25, 26, 27, 28, 29, 30, 31] rfl (by decide +kernel)
set_option maxRecDepth 20000 in
theorem gX3_rowCount_X3_stepsOfTest : GoodIn wsX3_rowCount (wsV RX3 34 RX3 yX3_stepsOfTest wsX3_stepsOfTest) := goodIn_app (goodIn_of _ (by decide +kernel)) ggX3_rowCount_X3_stepsOfTest
set_option maxRecDepth 20000 in
theorem ggX3_tms_X3_step : GoodIn wsX3_tms wsX3_step := goodIn_r _ [7, 8, 9, 10, 6, 11, 2, 12, 13, 14, 15, 16, 17, 18, 19, 20, 21, 22, 23, 24] rfl (by decide +kernel)
set_option maxRecDepth 20000 in
theorem gX3_tms_X3_step : GoodIn wsX3_tms (wsV RX3 42 RX3 yX3_step wsX3_step) := goodIn_app (goodIn_of _ (by decide +kernel)) ggX3_tms_X3_step
set_option maxRecDepth 20000 in
theorem ggX3_tdi_X3_isShift : GoodIn wsX3_tdi wsX3_isShift := goodIn_r _ [8, 3, 9, 10, 11, 7, 12, 13, 14, 15, 16, 25, 26, 27, 39, 40, 41, 42, 43, 44, 45, 46, 47, 48] rfl (by decide +kernel)
set_option maxRecDepth 20000 in
theorem gX3_tdi_X3_isShift : GoodIn wsX3_tdi (wsV RX3 54 RX3 yX3_isShift wsX3_isShift) := goodIn_app (goodIn_of _ (by decide +kernel)) ggX3_tdi_X3_isShift
set_option maxRecDepth 20000 in
theorem ggX3_tdi_X3_turn : GoodIn wsX3_tdi wsX3_turn := goodIn_r _ [20, 13, 14, 15, 7, 16, 3, 25, 26, 27, 39, 40, 41, 42, 43, 44, 45, 46, 47, 48] rfl (by decide +kernel)
set_option maxRecDepth 20000 in
theorem gX3_tdi_X3_turn : GoodIn wsX3_tdi (wsV RX3 58 RX3 yX3_turn wsX3_turn) := goodIn_app (goodIn_of _ (by decide +kernel)) ggX3_tdi_X3_turn
set_option maxRecDepth 20000 in
theorem ggX3_tdi_X3_flopOfShift : GoodIn wsX3_tdi wsX3_flopOfShift := goodIn_r _ [24, 3, 9, 10, 11, 7, 12, 13, 14, 15, 16, 25, 26, 27, 39, 40, 41, 42, 43, 44, 45, 46, 47, 48] rfl (by decide +kernel)
set_option maxRecDepth 20000 in
theorem gX3_tdi_X3_flopOfShift : GoodIn wsX3_tdi (wsV RX3 67 RX3 yX3_flopOfShift wsX3_flopOfShift) := goodIn_app (goodIn_of _ (by decide +kernel)) ggX3_tdi_X3_flopOfShift
set_option maxRecDepth 20000 in
theorem ggX3_inputs_X3_capturesTest : GoodIn wsX3_inputs wsX3_capturesTest := goodIn_r _ [7, 8, 9, 10, 6, 11, 12, 13, 14, 15, 1, 16, 17, 18, 19, 26, 27, 28, 40, 41, 42, 43, 44, 45, 46, 47, 48, 49] rfl (by decide +kernel)
set_option maxRecDepth 20000 in
theorem gX3_inputs_X3_capturesTest : GoodIn wsX3_inputs (wsV RX3 70 RX3 yX3_capturesTest wsX3_capturesTest) := goodIn_app (goodIn_of _ (by decide +kernel)) ggX3_inputs_X3_capturesTest
set_option maxRecDepth 20000 in
theorem ggX3_inputs_X3_turn : GoodIn wsX3_inputs wsX3_turn := goodIn_r _ [19, 12, 13, 14, 6, 15, 1, 26, 27, 28, 40, 41, 42, 43, 44, 45, 46, 47, 48, 49] rfl (by decide +kernel)
set_option maxRecDepth 20000 in
theorem gX3_inputs_X3_turn : GoodIn wsX3_inputs (wsV RX3 58 RX3 yX3_turn wsX3_turn) := goodIn_app (goodIn_of _ (by decide +kernel)) ggX3_inputs_X3_turn
set_option maxRecDepth 20000 in
theorem ggX3_inputs_X2_inputsOf : GoodIn wsX3_inputs wsX2_inputsOf := goodIn_r _ [24, 25, 40, 41, 42, 43, 44, 45, 46, 47, 48, 49] rfl (by decide +kernel)
set_option maxRecDepth 20000 in
theorem gX3_inputs_X2_inputsOf : GoodIn wsX3_inputs (wsV RX3 73 RX2 yX2_inputsOf wsX2_inputsOf) := goodIn_app (goodIn_of _ (by decide +kernel)) ggX3_inputs_X2_inputsOf
set_option maxRecDepth 20000 in
theorem ggX3_tdoDue_X3_isShift : GoodIn wsX3_tdoDue wsX3_isShift := goodIn_r _ [7, 1, 8, 9, 10, 6, 11, 12, 13, 14, 15, 30, 31, 32, 44, 45, 46, 47, 48, 49, 50, 51, 52, 53] rfl (by decide +kernel)
set_option maxRecDepth 20000 in
theorem gX3_tdoDue_X3_isShift : GoodIn wsX3_tdoDue (wsV RX3 54 RX3 yX3_isShift wsX3_isShift) := goodIn_app (goodIn_of _ (by decide +kernel)) ggX3_tdoDue_X3_isShift
set_option maxRecDepth 20000 in
theorem ggX3_tdoDue_X3_turn : GoodIn wsX3_tdoDue wsX3_turn := goodIn_r _ [19, 12, 13, 14, 6, 15, 1, 30, 31, 32, 44, 45, 46, 47, 48, 49, 50, 51, 52, 53] rfl (by decide +kernel)
set_option maxRecDepth 20000 in
theorem gX3_tdoDue_X3_turn : GoodIn wsX3_tdoDue (wsV RX3 58 RX3 yX3_turn wsX3_turn) := goodIn_app (goodIn_of _ (by decide +kernel)) ggX3_tdoDue_X3_turn
set_option maxRecDepth 20000 in
theorem ggX3_tdoDue_X2_nextsOf : GoodIn wsX3_tdoDue wsX2_nextsOf := goodIn_r _ [24, 25, 44, 45, 46, 47, 48, 49, 50, 51, 52, 53] rfl (by decide +kernel)
set_option maxRecDepth 20000 in
theorem gX3_tdoDue_X2_nextsOf : GoodIn wsX3_tdoDue (wsV RX3 79 RX2 yX2_nextsOf wsX2_nextsOf) := goodIn_app (goodIn_of _ (by decide +kernel)) ggX3_tdoDue_X2_nextsOf
set_option maxRecDepth 20000 in
theorem ggX3_tdoDue_X3_flopOfShift : GoodIn wsX3_tdoDue wsX3_flopOfShift := goodIn_r _ [29, 1, 8, 9, 10, 6, 11, 12, 13, 14, 15, 30, 31, 32, 44, 45, 46, 47, 48, 49, 50, 51, 52, 53] rfl (by decide +kernel)
set_option maxRecDepth 20000 in
theorem gX3_tdoDue_X3_flopOfShift : GoodIn wsX3_tdoDue (wsV RX3 67 RX3 yX3_flopOfShift wsX3_flopOfShift) := goodIn_app (goodIn_of _ (by decide +kernel)) ggX3_tdoDue_X3_flopOfShift
set_option maxRecDepth 20000 in
theorem ggX3_outputsDue_X3_capturesTest : GoodIn wsX3_outputsDue wsX3_capturesTest := goodIn_r _ [7, 8, 9, 10, 6, 11, 12, 13, 14, 15, 1, 16, 17, 18, 19, 26, 27, 28, 40, 41, 42, 43, 44, 45, 46, 47, 48, 49] rfl (by decide +kernel)
set_option maxRecDepth 20000 in
theorem gX3_outputsDue_X3_capturesTest : GoodIn wsX3_outputsDue (wsV RX3 70 RX3 yX3_capturesTest wsX3_capturesTest) := goodIn_app (goodIn_of _ (by decide +kernel)) ggX3_outputsDue_X3_capturesTest
set_option maxRecDepth 20000 in
theorem ggX3_outputsDue_X3_turn : GoodIn wsX3_outputsDue wsX3_turn := goodIn_r _ [19, 12, 13, 14, 6, 15, 1, 26, 27, 28, 40, 41, 42, 43, 44, 45, 46, 47, 48, 49] rfl (by decide +kernel)
set_option maxRecDepth 20000 in
theorem gX3_outputsDue_X3_turn : GoodIn wsX3_outputsDue (wsV RX3 58 RX3 yX3_turn wsX3_turn) := goodIn_app (goodIn_of _ (by decide +kernel)) ggX3_outputsDue_X3_turn
set_option maxRecDepth 20000 in
theorem ggX3_outputsDue_X2_outputsOf : GoodIn wsX3_outputsDue wsX2_outputsOf := goodIn_r _ [24, 25, 40, 41, 42, 43, 44, 45, 46, 47, 48, 49] rfl (by decide +kernel)
set_option maxRecDepth 20000 in
theorem gX3_outputsDue_X2_outputsOf : GoodIn wsX3_outputsDue (wsV RX3 82 RX2 yX2_outputsOf wsX2_outputsOf) := goodIn_app (goodIn_of _ (by decide +kernel)) ggX3_outputsDue_X2_outputsOf
set_option maxRecDepth 20000 in
theorem ggX3_failingRow_X0_renew : GoodIn wsX3_failingRow wsX0_renew := goodIn_r _ [6, 7, 8, 9, 10, 11, 12, 149, 150, 151, 152, 153, 154, 155] rfl (by decide +kernel)
set_option maxRecDepth 20000 in
theorem gX3_failingRow_X0_renew : GoodIn wsX3_failingRow (wsV RX3 85 RX0 yX0_renew wsX0_renew) := goodIn_app (goodIn_of _ (by decide +kernel)) ggX3_failingRow_X0_renew
set_option maxRecDepth 20000 in
theorem ggX3_failingRow_X3_rowCount : GoodIn wsX3_failingRow wsX3_rowCount := goodIn_r _ [17, 18, 19, 20, 21, 16, 22, 23, 146, 147, 148, 156, 157, 158, 159, 160, 161, 162, 163, 164, 165, 166, 167, 168, 169, 170, 171, 172, 173, 174, 175, 176] rfl (by decide +kernel)
set_option maxRecDepth 20000 in
theorem gX3_failingRow_X3_rowCount : GoodIn wsX3_failingRow (wsV RX3 89 RX3 yX3_rowCount wsX3_rowCount) := goodIn_app (goodIn_of _ (by decide +kernel)) ggX3_failingRow_X3_rowCount
set_option maxRecDepth 20000 in
theorem ggX3_failingRow_X3_showsWhatIsDue : GoodIn wsX3_failingRow wsX3_showsWhatIsDue := goodIn_r _ [27, 1, 28, 29, 30, 16, 31, 23, 18, 32, 33, 34, 35, 36, 37, 38, 39, 19, 20, 21, 22, 40, 41, 42, 43, 44, 45, 46, 47, 48, 49, 50, 51, 52, 53, 54, 55, 56, 57, 58, 59, 60, 61, 5, 62, 8, 12, 9, 11, 63, 10, 64, 65, 66, 67, 68, 69, 70, 71, 72, 73, 74, 75, 76, 77, 78, 79, 80, 81, 82, 83, 84, 85, 86, 87, 88, 7, 89, 90, 91, 92, 93, 94, 95, 96, 97, 98, 99, 100, 101, 102, 103, 104, 105, 106, 107, 108, 109, 110, 111, 112, 113, 114, 115, 116, 117, 118, 119, 120, 121, 122, 146, 147, 148, 156, 157, 158, 159, 160, 161, 162, 163, 164, 165, 166, 167, 168, 169, 170, 171, 172, 173, 174, 175, 176, 149, 150, 151, 152, 153, 154, 155] rfl (by decide +kernel)
set_option maxRecDepth 20000 in
theorem gX3_failingRow_X3_showsWhatIsDue : GoodIn wsX3_failingRow (wsV RX3 92 RX3 yX3_showsWhatIsDue wsX3_showsWhatIsDue) := goodIn_app (goodIn_of _ (by decide +kernel)) ggX3_failingRow_X3_showsWhatIsDue
set_option maxRecDepth 20000 in
theorem ggX3_failingRow_X3_tms : GoodIn wsX3_failingRow wsX3_tms := goodIn_r _ [126, 127, 23, 36, 37, 38, 16, 39, 19, 20, 21, 22, 146, 147, 148, 167, 168, 169, 170, 171, 172, 173, 174, 175, 176] rfl (by decide +kernel)
set_option maxRecDepth 20000 in
theorem gX3_failingRow_X3_tms : GoodIn wsX3_failingRow (wsV RX3 95 RX3 yX3_tms wsX3_tms) := goodIn_app (goodIn_of _ (by decide +kernel)) ggX3_failingRow_X3_tms
set_option maxRecDepth 20000 in
theorem ggX3_failingRow_X3_tdi : GoodIn wsX3_failingRow wsX3_tdi := goodIn_r _ [57, 58, 18, 23, 32, 33, 34, 16, 35, 36, 37, 38, 39, 19, 20, 21, 22, 40, 41, 42, 43, 50, 51, 52, 53, 146, 147, 148, 156, 157, 158, 159, 160, 161, 162, 163, 164, 165, 166, 167, 168, 169, 170, 171, 172, 173, 174, 175, 176] rfl (by decide +kernel)
set_option maxRecDepth 20000 in
theorem gX3_failingRow_X3_tdi : GoodIn wsX3_failingRow (wsV RX3 98 RX3 yX3_tdi wsX3_tdi) := goodIn_app (goodIn_of _ (by decide +kernel)) ggX3_failingRow_X3_tdi
set_option maxRecDepth 20000 in
theorem ggX3_failingRow_X3_inputs : GoodIn wsX3_failingRow wsX3_inputs := goodIn_r _ [79, 23, 18, 68, 69, 70, 16, 71, 36, 37, 38, 39, 19, 20, 21, 22, 40, 41, 42, 43, 80, 81, 82, 47, 83, 84, 146, 147, 148, 156, 157, 158, 159, 160, 161, 162, 163, 164, 165, 166, 167, 168, 169, 170, 171, 172, 173, 174, 175, 176] rfl (by decide +kernel)
set_option maxRecDepth 20000 in
theorem gX3_failingRow_X3_inputs : GoodIn wsX3_failingRow (wsV RX3 101 RX3 yX3_inputs wsX3_inputs) := goodIn_app (goodIn_of _ (by decide +kernel)) ggX3_failingRow_X3_inputs
set_option maxRecDepth 20000 in
theorem ggX3_failingRow_X0_pulse : GoodIn wsX3_failingRow wsX0_pulse := goodIn_r _ [131, 8, 9, 12, 132, 133, 134, 135, 5, 136, 63, 7, 10, 89, 90, 91, 92, 93, 94, 95, 47, 96, 97, 49, 98, 99, 100, 101, 102, 103, 84, 104, 105, 106, 107, 108, 109, 110, 111, 112, 113, 114, 115, 116, 117, 118, 119, 120, 121, 137, 45, 46, 48, 138, 139, 140, 141, 11, 142, 143, 144, 145, 149, 150, 151, 152, 153, 154, 155, 167, 168, 169, 170, 171, 172, 173, 174, 175, 176] rfl (by decide +kernel)
set_option maxRecDepth 20000 in
theorem gX3_failingRow_X0_pulse : GoodIn wsX3_failingRow (wsV RX3 103 RX0 yX0_pulse wsX0_pulse) := goodIn_app (goodIn_of _ (by decide +kernel)) ggX3_failingRow_X0_pulse
set_option maxRecDepth 20000 in
theorem ggX3_showsWhatIsDue_X3_tdoDue : GoodIn wsX3_showsWhatIsDue wsX3_tdoDue := goodIn_r _ [6, 7, 8, 9, 10, 11, 5, 12, 13, 14, 15, 16, 17, 18, 19, 20, 21, 22, 23, 24, 25, 26, 27, 28, 29, 30, 31, 32, 33, 34, 111, 112, 113, 114, 115, 116, 117, 118, 119, 120, 121, 122, 123, 124, 125, 126, 127, 128, 129, 130, 131, 132, 133, 134] rfl (by decide +kernel)
set_option maxRecDepth 20000 in
theorem gX3_showsWhatIsDue_X3_tdoDue : GoodIn wsX3_showsWhatIsDue (wsV RX3 107 RX3 yX3_tdoDue wsX3_tdoDue) := goodIn_app (goodIn_of _ (by decide +kernel)) ggX3_showsWhatIsDue_X3_tdoDue
set_option maxRecDepth 20000 in
theorem ggX3_showsWhatIsDue_X3_tdi : GoodIn wsX3_showsWhatIsDue wsX3_tdi := goodIn_r _ [38, 39, 8, 7, 9, 10, 11, 5, 12, 13, 14, 15, 16, 17, 18, 19, 20, 21, 22, 23, 24, 31, 32, 33, 34, 111, 112, 113, 114, 115, 116, 117, 118, 119, 120, 121, 122, 123, 124, 125, 126, 127, 128, 129, 130, 131, 132, 133, 134] rfl (by decide +kernel)
set_option maxRecDepth 20000 in
theorem gX3_showsWhatIsDue_X3_tdi : GoodIn wsX3_showsWhatIsDue (wsV RX3 98 RX3 yX3_tdi wsX3_tdi) := goodIn_app (goodIn_of _ (by decide +kernel)) ggX3_showsWhatIsDue_X3_tdi
set_option maxRecDepth 20000 in
theorem ggX3_showsWhatIsDue_X0_tdo : GoodIn wsX3_showsWhatIsDue wsX0_tdo := goodIn_r _ [44, 45, 46, 47, 48, 49, 50, 135, 136, 137, 138, 139, 140, 141, 125, 126, 127, 128, 129, 130, 131, 132, 133, 134] rfl (by decide +kernel)
set_option maxRecDepth 20000 in
theorem gX3_showsWhatIsDue_X0_tdo : GoodIn wsX3_showsWhatIsDue (wsV RX3 110 RX0 yX0_tdo wsX0_tdo) := goodIn_app (goodIn_of _ (by decide +kernel)) ggX3_showsWhatIsDue_X0_tdo
set_option maxRecDepth 20000 in
theorem ggX3_showsWhatIsDue_X3_outputsDue : GoodIn wsX3_showsWhatIsDue wsX3_outputsDue := goodIn_r _ [54, 7, 8, 55, 56, 57, 5, 58, 13, 14, 15, 16, 17, 18, 19, 20, 21, 22, 23, 24, 59, 60, 61, 28, 62, 30, 111, 112, 113, 114, 115, 116, 117, 118, 119, 120, 121, 122, 123, 124, 125, 126, 127, 128, 129, 130, 131, 132, 133, 134] rfl (by decide +kernel)
set_option maxRecDepth 20000 in
theorem gX3_showsWhatIsDue_X3_outputsDue : GoodIn wsX3_showsWhatIsDue (wsV RX3 113 RX3 yX3_outputsDue wsX3_outputsDue) := goodIn_app (goodIn_of _ (by decide +kernel)) ggX3_showsWhatIsDue_X3_outputsDue
set_option maxRecDepth 20000 in
theorem ggX3_showsWhatIsDue_X3_inputs : GoodIn wsX3_showsWhatIsDue wsX3_inputs := goodIn_r _ [66, 7, 8, 55, 56, 57, 5, 58, 13, 14, 15, 16, 17, 18, 19, 20, 21, 22, 23, 24, 67, 68, 69, 28, 70, 71, 111, 112, 113, 114, 115, 116, 117, 118, 119, 120, 121, 122, 123, 124, 125, 126, 127, 128, 129, 130, 131, 132, 133, 134] rfl (by decide +kernel)
set_option maxRecDepth 20000 in
theorem gX3_showsWhatIsDue_X3_inputs : GoodIn wsX3_showsWhatIsDue (wsV RX3 101 RX3 yX3_inputs wsX3_inputs) := goodIn_app (goodIn_of _ (by decide +kernel)) ggX3_showsWhatIsDue_X3_inputs
set_option maxRecDepth 20000 in
theorem ggX3_showsWhatIsDue_X0_outputs : GoodIn wsX3_showsWhatIsDue wsX0_outputs := goodIn_r _ [75, 49, 76, 77, 78, 79, 43, 80, 50, 81, 82, 83, 28, 84, 85, 30, 86, 87, 88, 89, 90, 91, 71, 92, 93, 94, 95, 96, 97, 98, 99, 100, 101, 102, 103, 104, 105, 106, 107, 108, 109, 110, 60, 61, 62, 135, 136, 137, 138, 139, 140, 141, 125, 126, 127, 128, 129, 130, 131, 132, 133, 134] rfl (by decide +kernel)
set_option maxRecDepth 20000 in
theorem gX3_showsWhatIsDue_X0_outputs : GoodIn wsX3_showsWhatIsDue (wsV RX3 116 RX0 yX0_outputs wsX0_outputs) := goodIn_app (goodIn_of _ (by decide +kernel)) ggX3_showsWhatIsDue_X0_outputs
set_option maxRecDepth 20000 in
theorem ggX3_turn_X3_stepsOfTest : GoodIn wsX3_turn wsX3_stepsOfTest := goodIn_r _ [5, 6, 7, 8, 9, 10, 11, 12, 13, 14, 15, 16, 17, 18, 19] rfl (by decide +kernel)
set_option maxRecDepth 20000 in
theorem gX3_turn_X3_stepsOfTest : GoodIn wsX3_turn (wsV RX3 34 RX3 yX3_stepsOfTest wsX3_stepsOfTest) := goodIn_app (goodIn_of _ (by decide +kernel)) ggX3_turn_X3_stepsOfTest
set_option maxRecDepth 20000 in
theorem ggX3_step_X3_stepsOfTest : GoodIn wsX3_step wsX3_stepsOfTest := goodIn_r _ [5, 6, 7, 8, 9, 10, 11, 12, 13, 14, 15, 16, 17, 18, 19] rfl (by decide +kernel)
set_option maxRecDepth 20000 in
theorem gX3_step_X3_stepsOfTest : GoodIn wsX3_step (wsV RX3 34 RX3 yX3_stepsOfTest wsX3_stepsOfTest) := goodIn_app (goodIn_of _ (by decide +kernel)) ggX3_step_X3_stepsOfTest
set_option maxRecDepth 20000 in
theorem ggX3_isShift_X3_step : GoodIn wsX3_isShift wsX3_step := goodIn_r _ [6, 7, 8, 9, 5, 10, 1, 11, 12, 13, 14, 15, 16, 17, 18, 19, 20, 21, 22, 23] rfl (by decide +kernel)
set_option maxRecDepth 20000 in
theorem gX3_isShift_X3_step : GoodIn wsX3_isShift (wsV RX3 42 RX3 yX3_step wsX3_step) := goodIn_app (goodIn_of _ (by decide +kernel)) ggX3_isShift_X3_step
set_option maxRecDepth 20000 in
theorem ggX3_flopOfShift_X3_step : GoodIn wsX3_flopOfShift wsX3_step := goodIn_r _ [6, 7, 8, 9, 5, 10, 1, 11, 12, 13, 14, 15, 16, 17, 18, 19, 20, 21, 22, 23] rfl (by decide +kernel)
set_option maxRecDepth 20000 in
theorem gX3_flopOfShift_X3_step : GoodIn wsX3_flopOfShift (wsV RX3 42 RX3 yX3_step wsX3_step) := goodIn_app (goodIn_of _ (by decide +kernel)) ggX3_flopOfShift_X3_step
set_option maxRecDepth 20000 in
theorem ggX3_capturesTest_X3_step : GoodIn wsX3_capturesTest wsX3_step := goodIn_r _ [5, 6, 7, 8, 4, 9, 10, 15, 16, 17, 18, 19, 20, 21, 22, 23, 24, 25, 26, 27] rfl (by decide +kernel)
set_option maxRecDepth 20000 in
theorem gX3_capturesTest_X3_step : GoodIn wsX3_capturesTest (wsV RX3 42 RX3 yX3_step wsX3_step) := goodIn_app (goodIn_of _ (by decide +kernel)) ggX3_capturesTest_X3_step
set_option maxRecDepth 20000 in
theorem ggX3_capturesTest_X3_turn : GoodIn wsX3_capturesTest wsX3_turn := goodIn_r _ [14, 6, 7, 8, 4, 9, 10, 15, 16, 17, 18, 19, 20, 21, 22, 23, 24, 25, 26, 27] rfl (by decide +kernel)
set_option maxRecDepth 20000 in
theorem gX3_capturesTest_X3_turn : GoodIn wsX3_capturesTest (wsV RX3 58 RX3 yX3_turn wsX3_turn) := goodIn_app (goodIn_of _ (by decide +kernel)) ggX3_capturesTest_X3_turn
