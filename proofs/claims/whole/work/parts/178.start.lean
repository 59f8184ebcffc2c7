set_option maxHeartbeats 8000000 in
set_option maxRecDepth 100000 in
theorem start_En {s : State} {b : Nat} (hgv : (Jvm.Cond.and given_1 narrow_1).before #[Value.ref b] s = true) (hts : ∀ w ∈ lw_tbl, w.before #[Value.ref b] s = true) : ∃ ts : Nat → Nat, En3 ts (fun q : Nat => s.heap.size ≤ q) s s.heap := by
  have hs := flat_of_before _ hgv
  have hA : ∀ a : Nat, a < s.heap.size → ¬ (fun q : Nat => s.heap.size ≤ q) a := fun a h q => absurd h (Nat.not_lt.mpr q)
  obtain ⟨t0, e0, T0⟩ := va_Tof (tm := .static "ScanTester$Circuit" "COLUMNS" "[J") (ty := .long) (N := 6) (f := fun j => .long (tb_COLUMNS.getD j 0)) (A := (fun q : Nat => s.heap.size ≤ q)) (by decide) (hs (.arrayOf (.static "ScanTester$Circuit" "COLUMNS" "[J") .long) (List.mem_of_getElem? (i := 32) rfl)) (va_eqt (hs (.eq (.length (.static "ScanTester$Circuit" "COLUMNS" "[J")) (.int 6)) (List.mem_of_getElem? (i := 33) rfl))) (fun j hj => match j, hj with
    | 0, _ => va_eqtl (hs (.eq (.elem (.static "ScanTester$Circuit" "COLUMNS" "[J") (.int 0)) (.long (-6148914691236517206))) (List.mem_of_getElem? (i := 34) rfl))
    | 1, _ => va_eqtl (hs (.eq (.elem (.static "ScanTester$Circuit" "COLUMNS" "[J") (.int 1)) (.long (-3689348814741910324))) (List.mem_of_getElem? (i := 35) rfl))
    | 2, _ => va_eqtl (hs (.eq (.elem (.static "ScanTester$Circuit" "COLUMNS" "[J") (.int 2)) (.long (-1085102592571150096))) (List.mem_of_getElem? (i := 36) rfl))
    | 3, _ => va_eqtl (hs (.eq (.elem (.static "ScanTester$Circuit" "COLUMNS" "[J") (.int 3)) (.long (-71777214294589696))) (List.mem_of_getElem? (i := 37) rfl))
    | 4, _ => va_eqtl (hs (.eq (.elem (.static "ScanTester$Circuit" "COLUMNS" "[J") (.int 4)) (.long (-281470681808896))) (List.mem_of_getElem? (i := 38) rfl))
    | 5, _ => va_eqtl (hs (.eq (.elem (.static "ScanTester$Circuit" "COLUMNS" "[J") (.int 5)) (.long (-4294967296))) (List.mem_of_getElem? (i := 39) rfl))
    | n + 6, h => absurd h (by omega)) hA
  have Z0 := va_Zref (hts (.laysStatic "ScanTester$Circuit" "COLUMNS" "[J") (inT2 _ (List.mem_of_getElem? (i := 219) rfl))) (hts (.initialized "ScanTester$Circuit") (inT1 _ (List.mem_of_getElem? (i := 2) rfl))) e0 hA
  obtain ⟨t1, e1, T1⟩ := va_Tof (tm := .static "ScanTester$Reader" "LEAST_LOOKED" "[I") (ty := .int) (N := 8) (f := fun j => .int (tb_LEAST_LOOKED.getD j 0)) (A := (fun q : Nat => s.heap.size ≤ q)) (by decide) (hs (.arrayOf (.static "ScanTester$Reader" "LEAST_LOOKED" "[I") .int) (List.mem_of_getElem? (i := 10) rfl)) (va_eqt (hs (.eq (.length (.static "ScanTester$Reader" "LEAST_LOOKED" "[I")) (.int 8)) (List.mem_of_getElem? (i := 11) rfl))) (fun j hj => match j, hj with
    | 0, _ => va_eqt (hs (.eq (.elem (.static "ScanTester$Reader" "LEAST_LOOKED" "[I") (.int 0)) (.int (2))) (List.mem_of_getElem? (i := 12) rfl))
    | 1, _ => va_eqt (hs (.eq (.elem (.static "ScanTester$Reader" "LEAST_LOOKED" "[I") (.int 1)) (.int (2))) (List.mem_of_getElem? (i := 13) rfl))
    | 2, _ => va_eqt (hs (.eq (.elem (.static "ScanTester$Reader" "LEAST_LOOKED" "[I") (.int 2)) (.int (2))) (List.mem_of_getElem? (i := 14) rfl))
    | 3, _ => va_eqt (hs (.eq (.elem (.static "ScanTester$Reader" "LEAST_LOOKED" "[I") (.int 3)) (.int (2))) (List.mem_of_getElem? (i := 15) rfl))
    | 4, _ => va_eqt (hs (.eq (.elem (.static "ScanTester$Reader" "LEAST_LOOKED" "[I") (.int 4)) (.int (2))) (List.mem_of_getElem? (i := 16) rfl))
    | 5, _ => va_eqt (hs (.eq (.elem (.static "ScanTester$Reader" "LEAST_LOOKED" "[I") (.int 5)) (.int (1))) (List.mem_of_getElem? (i := 17) rfl))
    | 6, _ => va_eqt (hs (.eq (.elem (.static "ScanTester$Reader" "LEAST_LOOKED" "[I") (.int 6)) (.int (1))) (List.mem_of_getElem? (i := 18) rfl))
    | 7, _ => va_eqt (hs (.eq (.elem (.static "ScanTester$Reader" "LEAST_LOOKED" "[I") (.int 7)) (.int (3))) (List.mem_of_getElem? (i := 19) rfl))
    | n + 8, h => absurd h (by omega)) hA
  have Z1 := va_Zref (hts (.laysStatic "ScanTester$Reader" "LEAST_LOOKED" "[I") (inT2 _ (List.mem_of_getElem? (i := 140) rfl))) (hts (.initialized "ScanTester$Reader") (inT1 _ (List.mem_of_getElem? (i := 3) rfl))) e1 hA
  obtain ⟨t2, e2, T2⟩ := va_Tof (tm := .static "ScanTester$Reader" "MOST_OF_OPERATION" "[I") (ty := .int) (N := 8) (f := fun j => .int (tb_MOST_OF_OPERATION.getD j 0)) (A := (fun q : Nat => s.heap.size ≤ q)) (by decide) (hs (.arrayOf (.static "ScanTester$Reader" "MOST_OF_OPERATION" "[I") .int) (List.mem_of_getElem? (i := 21) rfl)) (va_eqt (hs (.eq (.length (.static "ScanTester$Reader" "MOST_OF_OPERATION" "[I")) (.int 8)) (List.mem_of_getElem? (i := 22) rfl))) (fun j hj => match j, hj with
    | 0, _ => va_eqt (hs (.eq (.elem (.static "ScanTester$Reader" "MOST_OF_OPERATION" "[I") (.int 0)) (.int (4))) (List.mem_of_getElem? (i := 23) rfl))
    | 1, _ => va_eqt (hs (.eq (.elem (.static "ScanTester$Reader" "MOST_OF_OPERATION" "[I") (.int 1)) (.int (4))) (List.mem_of_getElem? (i := 24) rfl))
    | 2, _ => va_eqt (hs (.eq (.elem (.static "ScanTester$Reader" "MOST_OF_OPERATION" "[I") (.int 2)) (.int (4))) (List.mem_of_getElem? (i := 25) rfl))
    | 3, _ => va_eqt (hs (.eq (.elem (.static "ScanTester$Reader" "MOST_OF_OPERATION" "[I") (.int 3)) (.int (4))) (List.mem_of_getElem? (i := 26) rfl))
    | 4, _ => va_eqt (hs (.eq (.elem (.static "ScanTester$Reader" "MOST_OF_OPERATION" "[I") (.int 4)) (.int (4))) (List.mem_of_getElem? (i := 27) rfl))
    | 5, _ => va_eqt (hs (.eq (.elem (.static "ScanTester$Reader" "MOST_OF_OPERATION" "[I") (.int 5)) (.int (1))) (List.mem_of_getElem? (i := 28) rfl))
    | 6, _ => va_eqt (hs (.eq (.elem (.static "ScanTester$Reader" "MOST_OF_OPERATION" "[I") (.int 6)) (.int (1))) (List.mem_of_getElem? (i := 29) rfl))
    | 7, _ => va_eqt (hs (.eq (.elem (.static "ScanTester$Reader" "MOST_OF_OPERATION" "[I") (.int 7)) (.int (3))) (List.mem_of_getElem? (i := 30) rfl))
    | n + 8, h => absurd h (by omega)) hA
  have Z2 := va_Zref (hts (.laysStatic "ScanTester$Reader" "MOST_OF_OPERATION" "[I") (inT2 _ (List.mem_of_getElem? (i := 151) rfl))) (hts (.initialized "ScanTester$Reader") (inT1 _ (List.mem_of_getElem? (i := 3) rfl))) e2 hA
  obtain ⟨t3, e3, T3⟩ := va_Tof (tm := .static "ScanTester$Program" "LEAD_TDI" "[I") (ty := .int) (N := 14) (f := fun j => .int (tb_LEAD_TDI.getD j 0)) (A := (fun q : Nat => s.heap.size ≤ q)) (by decide) (hs (.arrayOf (.static "ScanTester$Program" "LEAD_TDI" "[I") .int) (List.mem_of_getElem? (i := 41) rfl)) (va_eqt (hs (.eq (.length (.static "ScanTester$Program" "LEAD_TDI" "[I")) (.int 14)) (List.mem_of_getElem? (i := 42) rfl))) (fun j hj => match j, hj with
    | 0, _ => va_eqt (hs (.eq (.elem (.static "ScanTester$Program" "LEAD_TDI" "[I") (.int 0)) (.int (0))) (List.mem_of_getElem? (i := 43) rfl))
    | 1, _ => va_eqt (hs (.eq (.elem (.static "ScanTester$Program" "LEAD_TDI" "[I") (.int 1)) (.int (0))) (List.mem_of_getElem? (i := 44) rfl))
    | 2, _ => va_eqt (hs (.eq (.elem (.static "ScanTester$Program" "LEAD_TDI" "[I") (.int 2)) (.int (0))) (List.mem_of_getElem? (i := 45) rfl))
    | 3, _ => va_eqt (hs (.eq (.elem (.static "ScanTester$Program" "LEAD_TDI" "[I") (.int 3)) (.int (0))) (List.mem_of_getElem? (i := 46) rfl))
    | 4, _ => va_eqt (hs (.eq (.elem (.static "ScanTester$Program" "LEAD_TDI" "[I") (.int 4)) (.int (0))) (List.mem_of_getElem? (i := 47) rfl))
    | 5, _ => va_eqt (hs (.eq (.elem (.static "ScanTester$Program" "LEAD_TDI" "[I") (.int 5)) (.int (0))) (List.mem_of_getElem? (i := 48) rfl))
    | 6, _ => va_eqt (hs (.eq (.elem (.static "ScanTester$Program" "LEAD_TDI" "[I") (.int 6)) (.int (0))) (List.mem_of_getElem? (i := 49) rfl))
    | 7, _ => va_eqt (hs (.eq (.elem (.static "ScanTester$Program" "LEAD_TDI" "[I") (.int 7)) (.int (0))) (List.mem_of_getElem? (i := 50) rfl))
    | 8, _ => va_eqt (hs (.eq (.elem (.static "ScanTester$Program" "LEAD_TDI" "[I") (.int 8)) (.int (0))) (List.mem_of_getElem? (i := 51) rfl))
    | 9, _ => va_eqt (hs (.eq (.elem (.static "ScanTester$Program" "LEAD_TDI" "[I") (.int 9)) (.int (0))) (List.mem_of_getElem? (i := 52) rfl))
    | 10, _ => va_eqt (hs (.eq (.elem (.static "ScanTester$Program" "LEAD_TDI" "[I") (.int 10)) (.int (1))) (List.mem_of_getElem? (i := 53) rfl))
    | 11, _ => va_eqt (hs (.eq (.elem (.static "ScanTester$Program" "LEAD_TDI" "[I") (.int 11)) (.int (0))) (List.mem_of_getElem? (i := 54) rfl))
    | 12, _ => va_eqt (hs (.eq (.elem (.static "ScanTester$Program" "LEAD_TDI" "[I") (.int 12)) (.int (0))) (List.mem_of_getElem? (i := 55) rfl))
    | 13, _ => va_eqt (hs (.eq (.elem (.static "ScanTester$Program" "LEAD_TDI" "[I") (.int 13)) (.int (0))) (List.mem_of_getElem? (i := 56) rfl))
    | n + 14, h => absurd h (by omega)) hA
  have Z3 := va_Zref (hts (.laysStatic "ScanTester$Program" "LEAD_TDI" "[I") (inT3 _ (List.mem_of_getElem? (i := 79) rfl))) (hts (.initialized "ScanTester$Program") (inT1 _ (List.mem_of_getElem? (i := 5) rfl))) e3 hA
  obtain ⟨t4, e4, T4⟩ := va_Tof (tm := .static "ScanTester$Program" "LEAD_TMS" "[I") (ty := .int) (N := 14) (f := fun j => .int (tb_LEAD_TMS.getD j 0)) (A := (fun q : Nat => s.heap.size ≤ q)) (by decide) (hs (.arrayOf (.static "ScanTester$Program" "LEAD_TMS" "[I") .int) (List.mem_of_getElem? (i := 58) rfl)) (va_eqt (hs (.eq (.length (.static "ScanTester$Program" "LEAD_TMS" "[I")) (.int 14)) (List.mem_of_getElem? (i := 59) rfl))) (fun j hj => match j, hj with
    | 0, _ => va_eqt (hs (.eq (.elem (.static "ScanTester$Program" "LEAD_TMS" "[I") (.int 0)) (.int (1))) (List.mem_of_getElem? (i := 60) rfl))
    | 1, _ => va_eqt (hs (.eq (.elem (.static "ScanTester$Program" "LEAD_TMS" "[I") (.int 1)) (.int (1))) (List.mem_of_getElem? (i := 61) rfl))
    | 2, _ => va_eqt (hs (.eq (.elem (.static "ScanTester$Program" "LEAD_TMS" "[I") (.int 2)) (.int (1))) (List.mem_of_getElem? (i := 62) rfl))
    | 3, _ => va_eqt (hs (.eq (.elem (.static "ScanTester$Program" "LEAD_TMS" "[I") (.int 3)) (.int (1))) (List.mem_of_getElem? (i := 63) rfl))
    | 4, _ => va_eqt (hs (.eq (.elem (.static "ScanTester$Program" "LEAD_TMS" "[I") (.int 4)) (.int (1))) (List.mem_of_getElem? (i := 64) rfl))
    | 5, _ => va_eqt (hs (.eq (.elem (.static "ScanTester$Program" "LEAD_TMS" "[I") (.int 5)) (.int (0))) (List.mem_of_getElem? (i := 65) rfl))
    | 6, _ => va_eqt (hs (.eq (.elem (.static "ScanTester$Program" "LEAD_TMS" "[I") (.int 6)) (.int (1))) (List.mem_of_getElem? (i := 66) rfl))
    | 7, _ => va_eqt (hs (.eq (.elem (.static "ScanTester$Program" "LEAD_TMS" "[I") (.int 7)) (.int (1))) (List.mem_of_getElem? (i := 67) rfl))
    | 8, _ => va_eqt (hs (.eq (.elem (.static "ScanTester$Program" "LEAD_TMS" "[I") (.int 8)) (.int (0))) (List.mem_of_getElem? (i := 68) rfl))
    | 9, _ => va_eqt (hs (.eq (.elem (.static "ScanTester$Program" "LEAD_TMS" "[I") (.int 9)) (.int (0))) (List.mem_of_getElem? (i := 69) rfl))
    | 10, _ => va_eqt (hs (.eq (.elem (.static "ScanTester$Program" "LEAD_TMS" "[I") (.int 10)) (.int (0))) (List.mem_of_getElem? (i := 70) rfl))
    | 11, _ => va_eqt (hs (.eq (.elem (.static "ScanTester$Program" "LEAD_TMS" "[I") (.int 11)) (.int (1))) (List.mem_of_getElem? (i := 71) rfl))
    | 12, _ => va_eqt (hs (.eq (.elem (.static "ScanTester$Program" "LEAD_TMS" "[I") (.int 12)) (.int (1))) (List.mem_of_getElem? (i := 72) rfl))
    | 13, _ => va_eqt (hs (.eq (.elem (.static "ScanTester$Program" "LEAD_TMS" "[I") (.int 13)) (.int (1))) (List.mem_of_getElem? (i := 73) rfl))
    | n + 14, h => absurd h (by omega)) hA
  have Z4 := va_Zref (hts (.laysStatic "ScanTester$Program" "LEAD_TMS" "[I") (inT3 _ (List.mem_of_getElem? (i := 119) rfl))) (hts (.initialized "ScanTester$Program") (inT1 _ (List.mem_of_getElem? (i := 5) rfl))) e4 hA
  obtain ⟨t5, e5, T5⟩ := va_Tof (tm := .static "ScanTester$Chip" "AFTER" "[I") (ty := .int) (N := 32) (f := fun j => .int (tb_AFTER.getD j 0)) (A := (fun q : Nat => s.heap.size ≤ q)) (by decide) (hs (.arrayOf (.static "ScanTester$Chip" "AFTER" "[I") .int) (List.mem_of_getElem? (i := 75) rfl)) (va_eqt (hs (.eq (.length (.static "ScanTester$Chip" "AFTER" "[I")) (.int 32)) (List.mem_of_getElem? (i := 76) rfl))) (fun j hj => match j, hj with
    | 0, _ => va_eqt (hs (.eq (.elem (.static "ScanTester$Chip" "AFTER" "[I") (.int 0)) (.int (1))) (List.mem_of_getElem? (i := 77) rfl))
    | 1, _ => va_eqt (hs (.eq (.elem (.static "ScanTester$Chip" "AFTER" "[I") (.int 1)) (.int (0))) (List.mem_of_getElem? (i := 78) rfl))
    | 2, _ => va_eqt (hs (.eq (.elem (.static "ScanTester$Chip" "AFTER" "[I") (.int 2)) (.int (1))) (List.mem_of_getElem? (i := 79) rfl))
    | 3, _ => va_eqt (hs (.eq (.elem (.static "ScanTester$Chip" "AFTER" "[I") (.int 3)) (.int (2))) (List.mem_of_getElem? (i := 80) rfl))
    | 4, _ => va_eqt (hs (.eq (.elem (.static "ScanTester$Chip" "AFTER" "[I") (.int 4)) (.int (3))) (List.mem_of_getElem? (i := 81) rfl))
    | 5, _ => va_eqt (hs (.eq (.elem (.static "ScanTester$Chip" "AFTER" "[I") (.int 5)) (.int (9))) (List.mem_of_getElem? (i := 82) rfl))
    | 6, _ => va_eqt (hs (.eq (.elem (.static "ScanTester$Chip" "AFTER" "[I") (.int 6)) (.int (4))) (List.mem_of_getElem? (i := 83) rfl))
    | 7, _ => va_eqt (hs (.eq (.elem (.static "ScanTester$Chip" "AFTER" "[I") (.int 7)) (.int (5))) (List.mem_of_getElem? (i := 84) rfl))
    | 8, _ => va_eqt (hs (.eq (.elem (.static "ScanTester$Chip" "AFTER" "[I") (.int 8)) (.int (4))) (List.mem_of_getElem? (i := 85) rfl))
    | 9, _ => va_eqt (hs (.eq (.elem (.static "ScanTester$Chip" "AFTER" "[I") (.int 9)) (.int (5))) (List.mem_of_getElem? (i := 86) rfl))
    | 10, _ => va_eqt (hs (.eq (.elem (.static "ScanTester$Chip" "AFTER" "[I") (.int 10)) (.int (6))) (List.mem_of_getElem? (i := 87) rfl))
    | 11, _ => va_eqt (hs (.eq (.elem (.static "ScanTester$Chip" "AFTER" "[I") (.int 11)) (.int (8))) (List.mem_of_getElem? (i := 88) rfl))
    | 12, _ => va_eqt (hs (.eq (.elem (.static "ScanTester$Chip" "AFTER" "[I") (.int 12)) (.int (6))) (List.mem_of_getElem? (i := 89) rfl))
    | 13, _ => va_eqt (hs (.eq (.elem (.static "ScanTester$Chip" "AFTER" "[I") (.int 13)) (.int (7))) (List.mem_of_getElem? (i := 90) rfl))
    | 14, _ => va_eqt (hs (.eq (.elem (.static "ScanTester$Chip" "AFTER" "[I") (.int 14)) (.int (4))) (List.mem_of_getElem? (i := 91) rfl))
    | 15, _ => va_eqt (hs (.eq (.elem (.static "ScanTester$Chip" "AFTER" "[I") (.int 15)) (.int (8))) (List.mem_of_getElem? (i := 92) rfl))
    | 16, _ => va_eqt (hs (.eq (.elem (.static "ScanTester$Chip" "AFTER" "[I") (.int 16)) (.int (1))) (List.mem_of_getElem? (i := 93) rfl))
    | 17, _ => va_eqt (hs (.eq (.elem (.static "ScanTester$Chip" "AFTER" "[I") (.int 17)) (.int (2))) (List.mem_of_getElem? (i := 94) rfl))
    | 18, _ => va_eqt (hs (.eq (.elem (.static "ScanTester$Chip" "AFTER" "[I") (.int 18)) (.int (10))) (List.mem_of_getElem? (i := 95) rfl))
    | 19, _ => va_eqt (hs (.eq (.elem (.static "ScanTester$Chip" "AFTER" "[I") (.int 19)) (.int (0))) (List.mem_of_getElem? (i := 96) rfl))
    | 20, _ => va_eqt (hs (.eq (.elem (.static "ScanTester$Chip" "AFTER" "[I") (.int 20)) (.int (11))) (List.mem_of_getElem? (i := 97) rfl))
    | 21, _ => va_eqt (hs (.eq (.elem (.static "ScanTester$Chip" "AFTER" "[I") (.int 21)) (.int (12))) (List.mem_of_getElem? (i := 98) rfl))
    | 22, _ => va_eqt (hs (.eq (.elem (.static "ScanTester$Chip" "AFTER" "[I") (.int 22)) (.int (11))) (List.mem_of_getElem? (i := 99) rfl))
    | 23, _ => va_eqt (hs (.eq (.elem (.static "ScanTester$Chip" "AFTER" "[I") (.int 23)) (.int (12))) (List.mem_of_getElem? (i := 100) rfl))
    | 24, _ => va_eqt (hs (.eq (.elem (.static "ScanTester$Chip" "AFTER" "[I") (.int 24)) (.int (13))) (List.mem_of_getElem? (i := 101) rfl))
    | 25, _ => va_eqt (hs (.eq (.elem (.static "ScanTester$Chip" "AFTER" "[I") (.int 25)) (.int (15))) (List.mem_of_getElem? (i := 102) rfl))
    | 26, _ => va_eqt (hs (.eq (.elem (.static "ScanTester$Chip" "AFTER" "[I") (.int 26)) (.int (13))) (List.mem_of_getElem? (i := 103) rfl))
    | 27, _ => va_eqt (hs (.eq (.elem (.static "ScanTester$Chip" "AFTER" "[I") (.int 27)) (.int (14))) (List.mem_of_getElem? (i := 104) rfl))
    | 28, _ => va_eqt (hs (.eq (.elem (.static "ScanTester$Chip" "AFTER" "[I") (.int 28)) (.int (11))) (List.mem_of_getElem? (i := 105) rfl))
    | 29, _ => va_eqt (hs (.eq (.elem (.static "ScanTester$Chip" "AFTER" "[I") (.int 29)) (.int (15))) (List.mem_of_getElem? (i := 106) rfl))
    | 30, _ => va_eqt (hs (.eq (.elem (.static "ScanTester$Chip" "AFTER" "[I") (.int 30)) (.int (1))) (List.mem_of_getElem? (i := 107) rfl))
    | 31, _ => va_eqt (hs (.eq (.elem (.static "ScanTester$Chip" "AFTER" "[I") (.int 31)) (.int (2))) (List.mem_of_getElem? (i := 108) rfl))
    | n + 32, h => absurd h (by omega)) hA
  have Z5 := va_Zref (hts (.laysStatic "ScanTester$Chip" "AFTER" "[I") (inT3 _ (List.mem_of_getElem? (i := 138) rfl))) (hts (.initialized "ScanTester$Chip") (inT1 _ (List.mem_of_getElem? (i := 6) rfl))) e5 hA
  obtain ⟨adK, adV, V, eV⟩ := vk_Sof (N := 4) (tm := fun i => match i with | 0 => .string "ScanTester$Reader" 51 | 1 => .string "ScanTester$Reader" 61 | 2 => .string "ScanTester$Reader" 67 | _ => .string "ScanTester$Reader" 155) (len := lit_len) (byt := lit_byt) (A := (fun q : Nat => s.heap.size ≤ q)) (by decide) (fun i hi => match i, hi with
    | 0, _ => (hs (.exactly (.string "ScanTester$Reader" 51) "java/lang/String") (List.mem_of_getElem? (i := 127) rfl))
    | 1, _ => (hs (.exactly (.string "ScanTester$Reader" 61) "java/lang/String") (List.mem_of_getElem? (i := 133) rfl))
    | 2, _ => (hs (.exactly (.string "ScanTester$Reader" 67) "java/lang/String") (List.mem_of_getElem? (i := 140) rfl))
    | 3, _ => (hs (.exactly (.string "ScanTester$Reader" 155) "java/lang/String") (List.mem_of_getElem? (i := 149) rfl))
    | n + 4, h => absurd h (by omega)) (fun i hi => match i, hi with
    | 0, _ => (hs (.eq (.field (.string "ScanTester$Reader" 51) "java/lang/String" "coder" "B") (.int 0)) (List.mem_of_getElem? (i := 128) rfl))
    | 1, _ => (hs (.eq (.field (.string "ScanTester$Reader" 61) "java/lang/String" "coder" "B") (.int 0)) (List.mem_of_getElem? (i := 134) rfl))
    | 2, _ => (hs (.eq (.field (.string "ScanTester$Reader" 67) "java/lang/String" "coder" "B") (.int 0)) (List.mem_of_getElem? (i := 141) rfl))
    | 3, _ => (hs (.eq (.field (.string "ScanTester$Reader" 155) "java/lang/String" "coder" "B") (.int 0)) (List.mem_of_getElem? (i := 150) rfl))
    | n + 4, h => absurd h (by omega)) (fun i hi => match i, hi with
    | 0, _ => (hs (.arrayOf (.field (.string "ScanTester$Reader" 51) "java/lang/String" "value" "[B") .byte) (List.mem_of_getElem? (i := 129) rfl))
    | 1, _ => (hs (.arrayOf (.field (.string "ScanTester$Reader" 61) "java/lang/String" "value" "[B") .byte) (List.mem_of_getElem? (i := 135) rfl))
    | 2, _ => (hs (.arrayOf (.field (.string "ScanTester$Reader" 67) "java/lang/String" "value" "[B") .byte) (List.mem_of_getElem? (i := 142) rfl))
    | 3, _ => (hs (.arrayOf (.field (.string "ScanTester$Reader" 155) "java/lang/String" "value" "[B") .byte) (List.mem_of_getElem? (i := 151) rfl))
    | n + 4, h => absurd h (by omega)) (fun i hi => match i, hi with
    | 0, _ => (hs (.eq (.length (.field (.string "ScanTester$Reader" 51) "java/lang/String" "value" "[B")) (.int 2)) (List.mem_of_getElem? (i := 130) rfl))
    | 1, _ => (hs (.eq (.length (.field (.string "ScanTester$Reader" 61) "java/lang/String" "value" "[B")) (.int 2)) (List.mem_of_getElem? (i := 136) rfl))
    | 2, _ => (hs (.eq (.length (.field (.string "ScanTester$Reader" 67) "java/lang/String" "value" "[B")) (.int 3)) (List.mem_of_getElem? (i := 143) rfl))
    | 3, _ => (hs (.eq (.length (.field (.string "ScanTester$Reader" 155) "java/lang/String" "value" "[B")) (.int 32)) (List.mem_of_getElem? (i := 152) rfl))
    | n + 4, h => absurd h (by omega)) (fun i hi => match i, hi with
    | 0, _ => (fun j hj => match j, hj with
      | 0, _ => (hs (.eq (.elem (.field (.string "ScanTester$Reader" 51) "java/lang/String" "value" "[B") (.int 0)) (.int 105)) (List.mem_of_getElem? (i := 131) rfl))
      | 1, _ => (hs (.eq (.elem (.field (.string "ScanTester$Reader" 51) "java/lang/String" "value" "[B") (.int 1)) (.int 110)) (List.mem_of_getElem? (i := 132) rfl))
      | n + 2, h => absurd h (by show ¬ n + 2 < 2; omega))
    | 1, _ => (fun j hj => match j, hj with
      | 0, _ => (hs (.eq (.elem (.field (.string "ScanTester$Reader" 61) "java/lang/String" "value" "[B") (.int 0)) (.int 102)) (List.mem_of_getElem? (i := 137) rfl))
      | 1, _ => (hs (.eq (.elem (.field (.string "ScanTester$Reader" 61) "java/lang/String" "value" "[B") (.int 1)) (.int 102)) (List.mem_of_getElem? (i := 138) rfl))
      | n + 2, h => absurd h (by show ¬ n + 2 < 2; omega))
    | 2, _ => (fun j hj => match j, hj with
      | 0, _ => (hs (.eq (.elem (.field (.string "ScanTester$Reader" 67) "java/lang/String" "value" "[B") (.int 0)) (.int 111)) (List.mem_of_getElem? (i := 144) rfl))
      | 1, _ => (hs (.eq (.elem (.field (.string "ScanTester$Reader" 67) "java/lang/String" "value" "[B") (.int 1)) (.int 117)) (List.mem_of_getElem? (i := 145) rfl))
      | 2, _ => (hs (.eq (.elem (.field (.string "ScanTester$Reader" 67) "java/lang/String" "value" "[B") (.int 2)) (.int 116)) (List.mem_of_getElem? (i := 146) rfl))
      | n + 3, h => absurd h (by show ¬ n + 3 < 3; omega))
    | 3, _ => (fun j hj => match j, hj with
      | 0, _ => (hs (.eq (.elem (.field (.string "ScanTester$Reader" 155) "java/lang/String" "value" "[B") (.int 0)) (.int 97)) (List.mem_of_getElem? (i := 153) rfl))
      | 1, _ => (hs (.eq (.elem (.field (.string "ScanTester$Reader" 155) "java/lang/String" "value" "[B") (.int 1)) (.int 110)) (List.mem_of_getElem? (i := 154) rfl))
      | 2, _ => (hs (.eq (.elem (.field (.string "ScanTester$Reader" 155) "java/lang/String" "value" "[B") (.int 2)) (.int 100)) (List.mem_of_getElem? (i := 155) rfl))
      | 3, _ => (hs (.eq (.elem (.field (.string "ScanTester$Reader" 155) "java/lang/String" "value" "[B") (.int 3)) (.int 32)) (List.mem_of_getElem? (i := 156) rfl))
      | 4, _ => (hs (.eq (.elem (.field (.string "ScanTester$Reader" 155) "java/lang/String" "value" "[B") (.int 4)) (.int 111)) (List.mem_of_getElem? (i := 157) rfl))
      | 5, _ => (hs (.eq (.elem (.field (.string "ScanTester$Reader" 155) "java/lang/String" "value" "[B") (.int 5)) (.int 114)) (List.mem_of_getElem? (i := 158) rfl))
      | 6, _ => (hs (.eq (.elem (.field (.string "ScanTester$Reader" 155) "java/lang/String" "value" "[B") (.int 6)) (.int 32)) (List.mem_of_getElem? (i := 159) rfl))
      | 7, _ => (hs (.eq (.elem (.field (.string "ScanTester$Reader" 155) "java/lang/String" "value" "[B") (.int 7)) (.int 32)) (List.mem_of_getElem? (i := 160) rfl))
      | 8, _ => (hs (.eq (.elem (.field (.string "ScanTester$Reader" 155) "java/lang/String" "value" "[B") (.int 8)) (.int 120)) (List.mem_of_getElem? (i := 161) rfl))
      | 9, _ => (hs (.eq (.elem (.field (.string "ScanTester$Reader" 155) "java/lang/String" "value" "[B") (.int 9)) (.int 111)) (List.mem_of_getElem? (i := 162) rfl))
      | 10, _ => (hs (.eq (.elem (.field (.string "ScanTester$Reader" 155) "java/lang/String" "value" "[B") (.int 10)) (.int 114)) (List.mem_of_getElem? (i := 163) rfl))
      | 11, _ => (hs (.eq (.elem (.field (.string "ScanTester$Reader" 155) "java/lang/String" "value" "[B") (.int 11)) (.int 32)) (List.mem_of_getElem? (i := 164) rfl))
      | 12, _ => (hs (.eq (.elem (.field (.string "ScanTester$Reader" 155) "java/lang/String" "value" "[B") (.int 12)) (.int 110)) (List.mem_of_getElem? (i := 165) rfl))
      | 13, _ => (hs (.eq (.elem (.field (.string "ScanTester$Reader" 155) "java/lang/String" "value" "[B") (.int 13)) (.int 97)) (List.mem_of_getElem? (i := 166) rfl))
      | 14, _ => (hs (.eq (.elem (.field (.string "ScanTester$Reader" 155) "java/lang/String" "value" "[B") (.int 14)) (.int 110)) (List.mem_of_getElem? (i := 167) rfl))
      | 15, _ => (hs (.eq (.elem (.field (.string "ScanTester$Reader" 155) "java/lang/String" "value" "[B") (.int 15)) (.int 100)) (List.mem_of_getElem? (i := 168) rfl))
      | 16, _ => (hs (.eq (.elem (.field (.string "ScanTester$Reader" 155) "java/lang/String" "value" "[B") (.int 16)) (.int 110)) (List.mem_of_getElem? (i := 169) rfl))
      | 17, _ => (hs (.eq (.elem (.field (.string "ScanTester$Reader" 155) "java/lang/String" "value" "[B") (.int 17)) (.int 111)) (List.mem_of_getElem? (i := 170) rfl))
      | 18, _ => (hs (.eq (.elem (.field (.string "ScanTester$Reader" 155) "java/lang/String" "value" "[B") (.int 18)) (.int 114)) (List.mem_of_getElem? (i := 171) rfl))
      | 19, _ => (hs (.eq (.elem (.field (.string "ScanTester$Reader" 155) "java/lang/String" "value" "[B") (.int 19)) (.int 32)) (List.mem_of_getElem? (i := 172) rfl))
      | 20, _ => (hs (.eq (.elem (.field (.string "ScanTester$Reader" 155) "java/lang/String" "value" "[B") (.int 20)) (.int 110)) (List.mem_of_getElem? (i := 173) rfl))
      | 21, _ => (hs (.eq (.elem (.field (.string "ScanTester$Reader" 155) "java/lang/String" "value" "[B") (.int 21)) (.int 111)) (List.mem_of_getElem? (i := 174) rfl))
      | 22, _ => (hs (.eq (.elem (.field (.string "ScanTester$Reader" 155) "java/lang/String" "value" "[B") (.int 22)) (.int 116)) (List.mem_of_getElem? (i := 175) rfl))
      | 23, _ => (hs (.eq (.elem (.field (.string "ScanTester$Reader" 155) "java/lang/String" "value" "[B") (.int 23)) (.int 32)) (List.mem_of_getElem? (i := 176) rfl))
      | 24, _ => (hs (.eq (.elem (.field (.string "ScanTester$Reader" 155) "java/lang/String" "value" "[B") (.int 24)) (.int 98)) (List.mem_of_getElem? (i := 177) rfl))
      | 25, _ => (hs (.eq (.elem (.field (.string "ScanTester$Reader" 155) "java/lang/String" "value" "[B") (.int 25)) (.int 117)) (List.mem_of_getElem? (i := 178) rfl))
      | 26, _ => (hs (.eq (.elem (.field (.string "ScanTester$Reader" 155) "java/lang/String" "value" "[B") (.int 26)) (.int 102)) (List.mem_of_getElem? (i := 179) rfl))
      | 27, _ => (hs (.eq (.elem (.field (.string "ScanTester$Reader" 155) "java/lang/String" "value" "[B") (.int 27)) (.int 32)) (List.mem_of_getElem? (i := 180) rfl))
      | 28, _ => (hs (.eq (.elem (.field (.string "ScanTester$Reader" 155) "java/lang/String" "value" "[B") (.int 28)) (.int 109)) (List.mem_of_getElem? (i := 181) rfl))
      | 29, _ => (hs (.eq (.elem (.field (.string "ScanTester$Reader" 155) "java/lang/String" "value" "[B") (.int 29)) (.int 117)) (List.mem_of_getElem? (i := 182) rfl))
      | 30, _ => (hs (.eq (.elem (.field (.string "ScanTester$Reader" 155) "java/lang/String" "value" "[B") (.int 30)) (.int 120)) (List.mem_of_getElem? (i := 183) rfl))
      | 31, _ => (hs (.eq (.elem (.field (.string "ScanTester$Reader" 155) "java/lang/String" "value" "[B") (.int 31)) (.int 32)) (List.mem_of_getElem? (i := 184) rfl))
      | n + 32, h => absurd h (by show ¬ n + 32 < 32; omega))
    | n + 4, h => absurd h (by omega)) (fun i j hi hj => match i, j, hi, hj with
    | 0, 0, _, _ => fun h => absurd rfl h
    | 0, 1, _, _ => fun h => Or.inl (hs (.not (.eq (.string "ScanTester$Reader" 51) (.string "ScanTester$Reader" 61))) (List.mem_of_getElem? (i := 139) rfl))
    | 0, 2, _, _ => fun h => Or.inl (hs (.not (.eq (.string "ScanTester$Reader" 51) (.string "ScanTester$Reader" 67))) (List.mem_of_getElem? (i := 147) rfl))
    | 0, 3, _, _ => fun h => Or.inl (hs (.not (.eq (.string "ScanTester$Reader" 51) (.string "ScanTester$Reader" 155))) (List.mem_of_getElem? (i := 185) rfl))
    | 1, 0, _, _ => fun h => Or.inr (hs (.not (.eq (.string "ScanTester$Reader" 51) (.string "ScanTester$Reader" 61))) (List.mem_of_getElem? (i := 139) rfl))
    | 1, 1, _, _ => fun h => absurd rfl h
    | 1, 2, _, _ => fun h => Or.inl (hs (.not (.eq (.string "ScanTester$Reader" 61) (.string "ScanTester$Reader" 67))) (List.mem_of_getElem? (i := 148) rfl))
    | 1, 3, _, _ => fun h => Or.inl (hs (.not (.eq (.string "ScanTester$Reader" 61) (.string "ScanTester$Reader" 155))) (List.mem_of_getElem? (i := 186) rfl))
    | 2, 0, _, _ => fun h => Or.inr (hs (.not (.eq (.string "ScanTester$Reader" 51) (.string "ScanTester$Reader" 67))) (List.mem_of_getElem? (i := 147) rfl))
    | 2, 1, _, _ => fun h => Or.inr (hs (.not (.eq (.string "ScanTester$Reader" 61) (.string "ScanTester$Reader" 67))) (List.mem_of_getElem? (i := 148) rfl))
    | 2, 2, _, _ => fun h => absurd rfl h
    | 2, 3, _, _ => fun h => Or.inl (hs (.not (.eq (.string "ScanTester$Reader" 67) (.string "ScanTester$Reader" 155))) (List.mem_of_getElem? (i := 187) rfl))
    | 3, 0, _, _ => fun h => Or.inr (hs (.not (.eq (.string "ScanTester$Reader" 51) (.string "ScanTester$Reader" 155))) (List.mem_of_getElem? (i := 185) rfl))
    | 3, 1, _, _ => fun h => Or.inr (hs (.not (.eq (.string "ScanTester$Reader" 61) (.string "ScanTester$Reader" 155))) (List.mem_of_getElem? (i := 186) rfl))
    | 3, 2, _, _ => fun h => Or.inr (hs (.not (.eq (.string "ScanTester$Reader" 67) (.string "ScanTester$Reader" 155))) (List.mem_of_getElem? (i := 187) rfl))
    | 3, 3, _, _ => fun h => absurd rfl h
    | n + 4, _, h, _ => absurd h (by omega)
    | _, n + 4, _, h => absurd h (by omega)) hA
  have d10 : ∀ i, i < 4 → (fun k : Nat => if k < 6 then (if k = 0 then t0 else if k = 1 then t1 else if k = 2 then t2 else if k = 3 then t3 else if k = 4 then t4 else t5) else if k < 20 then adK (k - 10) else adV (k - 20)) (10 + i) = adK i := by
    intro i hi
    show (if 10 + i < 6 then _ else if 10 + i < 20 then adK (10 + i - 10) else adV (10 + i - 20)) = adK i
    rw [if_neg (by omega), if_pos (by omega), show 10 + i - 10 = i by omega]
  have d20 : ∀ i, i < 4 → (fun k : Nat => if k < 6 then (if k = 0 then t0 else if k = 1 then t1 else if k = 2 then t2 else if k = 3 then t3 else if k = 4 then t4 else t5) else if k < 20 then adK (k - 10) else adV (k - 20)) (20 + i) = adV i := by
    intro i hi
    show (if 20 + i < 6 then _ else if 20 + i < 20 then adK (20 + i - 10) else adV (20 + i - 20)) = adV i
    rw [if_neg (by omega), if_neg (by omega), show 20 + i - 20 = i by omega]
  dsimp only at d10 d20
  refine ⟨fun k : Nat => if k < 6 then (if k = 0 then t0 else if k = 1 then t1 else if k = 2 then t2 else if k = 3 then t3 else if k = 4 then t4 else t5) else if k < 20 then adK (k - 10) else adV (k - 20), ⟨⟨?_, ⟨Z0, T0⟩, ⟨Z1, T1⟩, ⟨Z2, T2⟩, ⟨Z3, T3⟩, ⟨Z4, T4⟩, ⟨Z5, T5⟩, ⟨?_, ?_, ?_, ?_, ?_, ?_, ?_⟩⟩, ?_, ?_, ?_, ?_, ?_, ?_, ?_⟩, ?_, ?_⟩
  · exact (List.forall_mem_cons.mpr ⟨va_Nw.of rfl (hts (.fieldLinkNest "ScanTester$Program" 64 "ScanTester$Circuit" "inputs" "I" "ScanTester") (inT1 _ (List.mem_of_getElem? (i := 35) rfl))), (List.forall_mem_cons.mpr ⟨va_Nw.of rfl (hts (.fieldLinkNest "ScanTester$Chip" 64 "ScanTester$Circuit" "inputs" "I" "ScanTester") (inT1 _ (List.mem_of_getElem? (i := 36) rfl))), (List.forall_mem_cons.mpr ⟨va_Nw.of rfl (hts (.fieldLinkNest "ScanTester" 89 "ScanTester$Circuit" "inputs" "I" "ScanTester") (inT1 _ (List.mem_of_getElem? (i := 37) rfl))), (List.forall_mem_cons.mpr ⟨va_Nw.of rfl (hts (.fieldLinkNest "ScanTester$Reader" 131 "ScanTester$Circuit" "inputs" "I" "ScanTester") (inT1 _ (List.mem_of_getElem? (i := 38) rfl))), (List.forall_mem_cons.mpr ⟨va_Nw.of rfl (hts (.fieldLinkNest "ScanTester$Program" 46 "ScanTester$Circuit" "flops" "I" "ScanTester") (inT1 _ (List.mem_of_getElem? (i := 40) rfl))), (List.forall_mem_cons.mpr ⟨va_Nw.of rfl (hts (.fieldLinkNest "ScanTester$Chip" 47 "ScanTester$Circuit" "flops" "I" "ScanTester") (inT1 _ (List.mem_of_getElem? (i := 41) rfl))), (List.forall_mem_cons.mpr ⟨va_Nw.of rfl (hts (.fieldLinkNest "ScanTester" 92 "ScanTester$Circuit" "flops" "I" "ScanTester") (inT1 _ (List.mem_of_getElem? (i := 42) rfl))), (List.forall_mem_cons.mpr ⟨va_Nw.of rfl (hts (.fieldLinkNest "ScanTester$Reader" 128 "ScanTester$Circuit" "flops" "I" "ScanTester") (inT1 _ (List.mem_of_getElem? (i := 43) rfl))), (List.forall_mem_cons.mpr ⟨va_Nw.of rfl (hts (.fieldLinkNest "ScanTester" 80 "ScanTester$Circuit" "nets" "I" "ScanTester") (inT1 _ (List.mem_of_getElem? (i := 45) rfl))), (List.forall_mem_cons.mpr ⟨va_Nw.of rfl (hts (.fieldLinkNest "ScanTester$Choice" 76 "ScanTester$Circuit" "nets" "I" "ScanTester") (inT1 _ (List.mem_of_getElem? (i := 46) rfl))), (List.forall_mem_cons.mpr ⟨va_Nw.of rfl (hts (.fieldLinkNest "ScanTester$Reader" 111 "ScanTester$Circuit" "nets" "I" "ScanTester") (inT1 _ (List.mem_of_getElem? (i := 47) rfl))), (List.forall_mem_cons.mpr ⟨va_Nw.of rfl (hts (.fieldLinkNest "ScanTester" 95 "ScanTester$Circuit" "outputs" "I" "ScanTester") (inT1 _ (List.mem_of_getElem? (i := 49) rfl))), (List.forall_mem_cons.mpr ⟨va_Nw.of rfl (hts (.fieldLinkNest "ScanTester$Reader" 178 "ScanTester$Circuit" "outputs" "I" "ScanTester") (inT1 _ (List.mem_of_getElem? (i := 50) rfl))), (List.forall_mem_cons.mpr ⟨va_Nw.of rfl (hts (.fieldLinkNest "ScanTester$Reader" 146 "ScanTester$Circuit" "operation" "[I" "ScanTester") (inT1 _ (List.mem_of_getElem? (i := 52) rfl))), (List.forall_mem_cons.mpr ⟨va_Nw.of rfl (hts (.fieldLinkNest "ScanTester$Reader" 166 "ScanTester$Circuit" "lookedCount" "[I" "ScanTester") (inT1 _ (List.mem_of_getElem? (i := 54) rfl))), (List.forall_mem_cons.mpr ⟨va_Nw.of rfl (hts (.fieldLinkNest "ScanTester$Reader" 163 "ScanTester$Circuit" "looked" "[I" "ScanTester") (inT1 _ (List.mem_of_getElem? (i := 56) rfl))), (List.forall_mem_cons.mpr ⟨va_Nw.of rfl (hts (.fieldLinkNest "ScanTester$Reader" 175 "ScanTester$Circuit" "output" "[I" "ScanTester") (inT1 _ (List.mem_of_getElem? (i := 58) rfl))), (List.forall_mem_cons.mpr ⟨va_Nw.of rfl (hts (.fieldLinkNest "ScanTester$Reader" 172 "ScanTester$Circuit" "next" "[I" "ScanTester") (inT1 _ (List.mem_of_getElem? (i := 60) rfl))), (List.forall_mem_cons.mpr ⟨va_Nw.of rfl (hts (.fieldLinkNest "ScanTester$Choice" 86 "ScanTester$Circuit" "value" "[J" "ScanTester") (inT1 _ (List.mem_of_getElem? (i := 62) rfl))), (List.forall_mem_cons.mpr ⟨va_Nw.of rfl (hts (.fieldLinkNest "ScanTester" 83 "ScanTester$Reader" "fault" "I" "ScanTester") (inT1 _ (List.mem_of_getElem? (i := 97) rfl))), (List.forall_mem_cons.mpr ⟨va_Nw.of rfl (hts (.fieldLinkNest "ScanTester" 86 "ScanTester$Reader" "place" "I" "ScanTester") (inT1 _ (List.mem_of_getElem? (i := 99) rfl))), (List.forall_mem_cons.mpr ⟨va_Nw.of rfl (hts (.fieldLinkNest "ScanTester$Program" 61 "ScanTester$Choice" "ones" "[I" "ScanTester") (inT1 _ (List.mem_of_getElem? (i := 132) rfl))), (List.forall_mem_cons.mpr ⟨va_Nw.of rfl (hts (.fieldLinkNest "ScanTester" 144 "ScanTester$Choice" "ones" "[I" "ScanTester") (inT1 _ (List.mem_of_getElem? (i := 133) rfl))), (List.forall_mem_cons.mpr ⟨va_Nw.of rfl (hts (.fieldLinkNest "ScanTester$Program" 76 "ScanTester$Choice" "due" "[I" "ScanTester") (inT1 _ (List.mem_of_getElem? (i := 136) rfl))), (List.forall_mem_cons.mpr ⟨va_Nw.of rfl (hts (.fieldLinkNest "ScanTester" 101 "ScanTester$Choice" "testable" "I" "ScanTester") (inT1 _ (List.mem_of_getElem? (i := 140) rfl))), (List.forall_mem_cons.mpr ⟨va_Nw.of rfl (hts (.fieldLinkNest "ScanTester$Program" 28 "ScanTester$Choice" "tests" "I" "ScanTester") (inT1 _ (List.mem_of_getElem? (i := 142) rfl))), (List.forall_mem_cons.mpr ⟨va_Nw.of rfl (hts (.fieldLinkNest "ScanTester" 104 "ScanTester$Choice" "tests" "I" "ScanTester") (inT1 _ (List.mem_of_getElem? (i := 143) rfl))), (List.forall_mem_cons.mpr ⟨va_Nw.of rfl (hts (.fieldLinkNest "ScanTester" 177 "ScanTester$Chip" "state" "I" "ScanTester") (inT1 _ (List.mem_of_getElem? (i := 183) rfl))), (List.forall_mem_cons.mpr ⟨va_Nw.of rfl (hts (.fieldLinkNest "ScanTester" 180 "ScanTester$Chip" "code" "I" "ScanTester") (inT1 _ (List.mem_of_getElem? (i := 185) rfl))), (List.forall_mem_cons.mpr ⟨va_Nw.of rfl (hts (.fieldLinkNest "ScanTester" 183 "ScanTester$Chip" "held" "I" "ScanTester") (inT1 _ (List.mem_of_getElem? (i := 187) rfl))), (List.forall_mem_cons.mpr ⟨va_Nw.of rfl (hts (.fieldLinkNest "ScanTester" 186 "ScanTester$Chip" "beside" "I" "ScanTester") (inT1 _ (List.mem_of_getElem? (i := 189) rfl))), (List.forall_mem_cons.mpr ⟨va_Nw.of rfl (hts (.fieldLinkNest "ScanTester" 189 "ScanTester$Chip" "shifter" "I" "ScanTester") (inT1 _ (List.mem_of_getElem? (i := 191) rfl))), (List.forall_mem_cons.mpr ⟨va_Nw.of rfl (hts (.fieldLinkNest "ScanTester$Choice" 119 "ScanTester$Circuit" "COLUMNS" "[J" "ScanTester") (inT3 _ (List.mem_of_getElem? (i := 10) rfl))), (fun _ h => absurd h List.not_mem_nil)⟩)⟩)⟩)⟩)⟩)⟩)⟩)⟩)⟩)⟩)⟩)⟩)⟩)⟩)⟩)⟩)⟩)⟩)⟩)⟩)⟩)⟩)⟩)⟩)⟩)⟩)⟩)⟩)⟩)⟩)⟩)⟩)⟩)
  · refine ⟨fun i hi => ?_, fun i j hi hj e => V.2 i j hi hj ?_⟩
    · dsimp only
      rw [d10 i hi, d20 i hi]
      exact V.1 i hi
    · dsimp only at e
      rw [d10 i hi, d10 j hj] at e
      exact e
  · exact vk_R.of (hts (.stringRef "ScanTester$Reader" 51 "in") (inT2 _ (List.mem_of_getElem? (i := 36) rfl))) (eV 0 (by decide))
  · exact vk_R.of (hts (.stringRef "ScanTester$Reader" 61 "ff") (inT2 _ (List.mem_of_getElem? (i := 125) rfl))) (eV 1 (by decide))
  · exact vk_R.of (hts (.stringRef "ScanTester$Reader" 67 "out") (inT2 _ (List.mem_of_getElem? (i := 130) rfl))) (eV 2 (by decide))
  · exact vk_R.of (hts (.stringRef "ScanTester$Reader" 155 "and or  xor nandnor not buf mux ") (inT2 _ (List.mem_of_getElem? (i := 145) rfl))) (eV 3 (by decide))
  · exact va_Zof (hts (.laysStatic "java/lang/String" "COMPACT_STRINGS" "Z") (inT2 _ (List.mem_of_getElem? (i := 54) rfl))) (hts (.initialized "java/lang/String") (inT1 _ (List.mem_of_getElem? (i := 13) rfl))) (va_eqi (hs (.eq (.static "java/lang/String" "COMPACT_STRINGS" "Z") (.int 1)) (List.mem_of_getElem? (i := 4) rfl))) hA
  · exact va_Zqof (hts (.laysStatic "jdk/internal/util/Preconditions" "SIOOBE_FORMATTER" "Ljava/util/function/BiFunction;") (inT2 _ (List.mem_of_getElem? (i := 70) rfl))) (hts (.initialized "jdk/internal/util/Preconditions") (inT1 _ (List.mem_of_getElem? (i := 15) rfl))) (hs (.isRef (.static "jdk/internal/util/Preconditions" "SIOOBE_FORMATTER" "Ljava/util/function/BiFunction;")) (List.mem_of_getElem? (i := 5) rfl)) hA
  · exact vx_Zqof (hts (.laysStatic "java/lang/Throwable" "UNASSIGNED_STACK" "[Ljava/lang/StackTraceElement;") (inT3 _ (List.mem_of_getElem? (i := 174) rfl))) (hts (.initialized "java/lang/Throwable") (inT1 _ (List.mem_of_getElem? (i := 8) rfl))) (hs (.isRef (.static "java/lang/Throwable" "UNASSIGNED_STACK" "[Ljava/lang/StackTraceElement;")) (List.mem_of_getElem? (i := 109) rfl)) hA
  · exact vx_Zqof (hts (.laysStatic "java/lang/Throwable" "SUPPRESSED_SENTINEL" "Ljava/util/List;") (inT3 _ (List.mem_of_getElem? (i := 176) rfl))) (hts (.initialized "java/lang/Throwable") (inT1 _ (List.mem_of_getElem? (i := 8) rfl))) (hs (.isRef (.static "java/lang/Throwable" "SUPPRESSED_SENTINEL" "Ljava/util/List;")) (List.mem_of_getElem? (i := 110) rfl)) hA
  · exact va_Nw.of rfl (hts (.castable "java/lang/IllegalArgumentException" "java/lang/IllegalArgumentException") (inT3 _ (List.mem_of_getElem? (i := 149) rfl)))
  · exact va_Nw.of rfl (hts (.castable "java/lang/IndexOutOfBoundsException" "java/lang/IndexOutOfBoundsException") (inT4 _ (List.mem_of_getElem? (i := 4) rfl)))
  · exact va_Nw.of rfl (hts (.declares ⟨"java/lang/RuntimeException", "<init>", "()V"⟩) (inT3 _ (List.mem_of_getElem? (i := 150) rfl)))
  · exact va_Nw.of rfl (hts (.declares ⟨"java/lang/Exception", "<init>", "()V"⟩) (inT3 _ (List.mem_of_getElem? (i := 152) rfl)))
  · exact va_Nw.of rfl (hts (.declares ⟨"java/lang/Throwable", "<init>", "()V"⟩) (inT3 _ (List.mem_of_getElem? (i := 154) rfl)))
  · exact va_Nc.of (hs (.not (.castable "java/lang/IllegalArgumentException" "java/lang/IndexOutOfBoundsException")) (List.mem_of_getElem? (i := 126) rfl))
  · exact va_Nc.of (hs (.not (.castable "java/lang/IndexOutOfBoundsException" "java/lang/IllegalArgumentException")) (List.mem_of_getElem? (i := 118) rfl))
