theorem dX3_init_0 : decode cX3_init 0 = .ok (.aload_n 0, 1) := by decide +kernel
theorem dX3_init_1 : decode cX3_init 1 = .ok (.invokespecial 3, 3) := by decide +kernel
theorem dX3_init_4 : decode cX3_init 4 = .ok (.aload_n 0, 1) := by decide +kernel
theorem dX3_init_5 : decode cX3_init 5 = .ok (.aload_n 1, 1) := by decide +kernel
theorem dX3_init_6 : decode cX3_init 6 = .ok (.putfield 9, 3) := by decide +kernel
theorem dX3_init_9 : decode cX3_init 9 = .ok (.aload_n 0, 1) := by decide +kernel
theorem dX3_init_10 : decode cX3_init 10 = .ok (.aload_n 2, 1) := by decide +kernel
theorem dX3_init_11 : decode cX3_init 11 = .ok (.putfield 15, 3) := by decide +kernel
theorem dX3_init_14 : decode cX3_init 14 = .ok (.aload_n 0, 1) := by decide +kernel
theorem dX3_init_15 : decode cX3_init 15 = .ok (.new 19, 3) := by decide +kernel
theorem dX3_init_18 : decode cX3_init 18 = .ok (.dup, 1) := by decide +kernel
theorem dX3_init_19 : decode cX3_init 19 = .ok (.aload_n 1, 1) := by decide +kernel
theorem dX3_init_20 : decode cX3_init 20 = .ok (.invokespecial 21, 3) := by decide +kernel
theorem dX3_init_23 : decode cX3_init 23 = .ok (.putfield 24, 3) := by decide +kernel
theorem dX3_init_26 : decode cX3_init 26 = .ok (.return_, 1) := by decide +kernel
theorem dX3_rowCount_0 : decode cX3_rowCount 0 = .ok (.bipush 14, 2) := by decide +kernel
theorem dX3_rowCount_2 : decode cX3_rowCount 2 = .ok (.aload_n 0, 1) := by decide +kernel
theorem dX3_rowCount_3 : decode cX3_rowCount 3 = .ok (.getfield 15, 3) := by decide +kernel
theorem dX3_rowCount_6 : decode cX3_rowCount 6 = .ok (.getfield 28, 3) := by decide +kernel
theorem dX3_rowCount_9 : decode cX3_rowCount 9 = .ok (.iconst 1, 1) := by decide +kernel
theorem dX3_rowCount_10 : decode cX3_rowCount 10 = .ok (.iadd, 1) := by decide +kernel
theorem dX3_rowCount_11 : decode cX3_rowCount 11 = .ok (.aload_n 0, 1) := by decide +kernel
theorem dX3_rowCount_12 : decode cX3_rowCount 12 = .ok (.invokevirtual 34, 3) := by decide +kernel
theorem dX3_rowCount_15 : decode cX3_rowCount 15 = .ok (.imul, 1) := by decide +kernel
theorem dX3_rowCount_16 : decode cX3_rowCount 16 = .ok (.iadd, 1) := by decide +kernel
theorem dX3_rowCount_17 : decode cX3_rowCount 17 = .ok (.ireturn, 1) := by decide +kernel
theorem dX3_tms_0 : decode cX3_tms 0 = .ok (.iload_n 1, 1) := by decide +kernel
theorem dX3_tms_1 : decode cX3_tms 1 = .ok (.bipush 14, 2) := by decide +kernel
theorem dX3_tms_3 : decode cX3_tms 3 = .ok (.if_icmp .ge 9, 3) := by decide +kernel
theorem dX3_tms_6 : decode cX3_tms 6 = .ok (.getstatic 38, 3) := by decide +kernel
theorem dX3_tms_9 : decode cX3_tms 9 = .ok (.iload_n 1, 1) := by decide +kernel
theorem dX3_tms_10 : decode cX3_tms 10 = .ok (.iaload, 1) := by decide +kernel
theorem dX3_tms_11 : decode cX3_tms 11 = .ok (.ireturn, 1) := by decide +kernel
theorem dX3_tms_12 : decode cX3_tms 12 = .ok (.aload_n 0, 1) := by decide +kernel
theorem dX3_tms_13 : decode cX3_tms 13 = .ok (.iload_n 1, 1) := by decide +kernel
theorem dX3_tms_14 : decode cX3_tms 14 = .ok (.invokevirtual 42, 3) := by decide +kernel
theorem dX3_tms_17 : decode cX3_tms 17 = .ok (.aload_n 0, 1) := by decide +kernel
theorem dX3_tms_18 : decode cX3_tms 18 = .ok (.getfield 9, 3) := by decide +kernel
theorem dX3_tms_21 : decode cX3_tms 21 = .ok (.getfield 46, 3) := by decide +kernel
theorem dX3_tms_24 : decode cX3_tms 24 = .ok (.if_icmp .le 7, 3) := by decide +kernel
theorem dX3_tms_27 : decode cX3_tms 27 = .ok (.iconst 1, 1) := by decide +kernel
theorem dX3_tms_28 : decode cX3_tms 28 = .ok (.goto 4, 3) := by decide +kernel
theorem dX3_tms_31 : decode cX3_tms 31 = .ok (.iconst 0, 1) := by decide +kernel
theorem dX3_tms_32 : decode cX3_tms 32 = .ok (.ireturn, 1) := by decide +kernel
theorem dX3_tdi_0 : decode cX3_tdi 0 = .ok (.iload_n 1, 1) := by decide +kernel
theorem dX3_tdi_1 : decode cX3_tdi 1 = .ok (.bipush 14, 2) := by decide +kernel
theorem dX3_tdi_3 : decode cX3_tdi 3 = .ok (.if_icmp .ge 9, 3) := by decide +kernel
theorem dX3_tdi_6 : decode cX3_tdi 6 = .ok (.getstatic 51, 3) := by decide +kernel
theorem dX3_tdi_9 : decode cX3_tdi 9 = .ok (.iload_n 1, 1) := by decide +kernel
theorem dX3_tdi_10 : decode cX3_tdi 10 = .ok (.iaload, 1) := by decide +kernel
theorem dX3_tdi_11 : decode cX3_tdi 11 = .ok (.ireturn, 1) := by decide +kernel
theorem dX3_tdi_12 : decode cX3_tdi 12 = .ok (.aload_n 0, 1) := by decide +kernel
theorem dX3_tdi_13 : decode cX3_tdi 13 = .ok (.iload_n 1, 1) := by decide +kernel
theorem dX3_tdi_14 : decode cX3_tdi 14 = .ok (.invokevirtual 54, 3) := by decide +kernel
theorem dX3_tdi_17 : decode cX3_tdi 17 = .ok (.ifCond .eq 18, 3) := by decide +kernel
theorem dX3_tdi_20 : decode cX3_tdi 20 = .ok (.aload_n 0, 1) := by decide +kernel
theorem dX3_tdi_21 : decode cX3_tdi 21 = .ok (.iload_n 1, 1) := by decide +kernel
theorem dX3_tdi_22 : decode cX3_tdi 22 = .ok (.invokevirtual 58, 3) := by decide +kernel
theorem dX3_tdi_25 : decode cX3_tdi 25 = .ok (.aload_n 0, 1) := by decide +kernel
theorem dX3_tdi_26 : decode cX3_tdi 26 = .ok (.getfield 15, 3) := by decide +kernel
theorem dX3_tdi_29 : decode cX3_tdi 29 = .ok (.getfield 28, 3) := by decide +kernel
theorem dX3_tdi_32 : decode cX3_tdi 32 = .ok (.if_icmp .lt 5, 3) := by decide +kernel
theorem dX3_tdi_35 : decode cX3_tdi 35 = .ok (.iconst 0, 1) := by decide +kernel
theorem dX3_tdi_36 : decode cX3_tdi 36 = .ok (.ireturn, 1) := by decide +kernel
theorem dX3_tdi_37 : decode cX3_tdi 37 = .ok (.aload_n 0, 1) := by decide +kernel
theorem dX3_tdi_38 : decode cX3_tdi 38 = .ok (.getfield 15, 3) := by decide +kernel
theorem dX3_tdi_41 : decode cX3_tdi 41 = .ok (.getfield 61, 3) := by decide +kernel
theorem dX3_tdi_44 : decode cX3_tdi 44 = .ok (.aload_n 0, 1) := by decide +kernel
theorem dX3_tdi_45 : decode cX3_tdi 45 = .ok (.iload_n 1, 1) := by decide +kernel
theorem dX3_tdi_46 : decode cX3_tdi 46 = .ok (.invokevirtual 58, 3) := by decide +kernel
theorem dX3_tdi_49 : decode cX3_tdi 49 = .ok (.iaload, 1) := by decide +kernel
theorem dX3_tdi_50 : decode cX3_tdi 50 = .ok (.aload_n 0, 1) := by decide +kernel
theorem dX3_tdi_51 : decode cX3_tdi 51 = .ok (.getfield 9, 3) := by decide +kernel
theorem dX3_tdi_54 : decode cX3_tdi 54 = .ok (.getfield 64, 3) := by decide +kernel
theorem dX3_tdi_57 : decode cX3_tdi 57 = .ok (.aload_n 0, 1) := by decide +kernel
theorem dX3_tdi_58 : decode cX3_tdi 58 = .ok (.iload_n 1, 1) := by decide +kernel
theorem dX3_tdi_59 : decode cX3_tdi 59 = .ok (.invokevirtual 67, 3) := by decide +kernel
theorem dX3_tdi_62 : decode cX3_tdi 62 = .ok (.iadd, 1) := by decide +kernel
theorem dX3_tdi_63 : decode cX3_tdi 63 = .ok (.ishr, 1) := by decide +kernel
theorem dX3_tdi_64 : decode cX3_tdi 64 = .ok (.iconst 1, 1) := by decide +kernel
theorem dX3_tdi_65 : decode cX3_tdi 65 = .ok (.iand, 1) := by decide +kernel
theorem dX3_tdi_66 : decode cX3_tdi 66 = .ok (.ireturn, 1) := by decide +kernel
theorem dX3_inputs_0 : decode cX3_inputs 0 = .ok (.aload_n 0, 1) := by decide +kernel
theorem dX3_inputs_1 : decode cX3_inputs 1 = .ok (.iload_n 1, 1) := by decide +kernel
theorem dX3_inputs_2 : decode cX3_inputs 2 = .ok (.invokevirtual 70, 3) := by decide +kernel
theorem dX3_inputs_5 : decode cX3_inputs 5 = .ok (.ifCond .eq 28, 3) := by decide +kernel
theorem dX3_inputs_8 : decode cX3_inputs 8 = .ok (.aload_n 0, 1) := by decide +kernel
theorem dX3_inputs_9 : decode cX3_inputs 9 = .ok (.getfield 9, 3) := by decide +kernel
theorem dX3_inputs_12 : decode cX3_inputs 12 = .ok (.aload_n 0, 1) := by decide +kernel
theorem dX3_inputs_13 : decode cX3_inputs 13 = .ok (.getfield 15, 3) := by decide +kernel
theorem dX3_inputs_16 : decode cX3_inputs 16 = .ok (.getfield 61, 3) := by decide +kernel
theorem dX3_inputs_19 : decode cX3_inputs 19 = .ok (.aload_n 0, 1) := by decide +kernel
theorem dX3_inputs_20 : decode cX3_inputs 20 = .ok (.iload_n 1, 1) := by decide +kernel
theorem dX3_inputs_21 : decode cX3_inputs 21 = .ok (.invokevirtual 58, 3) := by decide +kernel
theorem dX3_inputs_24 : decode cX3_inputs 24 = .ok (.iconst 1, 1) := by decide +kernel
theorem dX3_inputs_25 : decode cX3_inputs 25 = .ok (.isub, 1) := by decide +kernel
theorem dX3_inputs_26 : decode cX3_inputs 26 = .ok (.iaload, 1) := by decide +kernel
theorem dX3_inputs_27 : decode cX3_inputs 27 = .ok (.invokevirtual 73, 3) := by decide +kernel
theorem dX3_inputs_30 : decode cX3_inputs 30 = .ok (.goto 4, 3) := by decide +kernel
theorem dX3_inputs_33 : decode cX3_inputs 33 = .ok (.iconst 0, 1) := by decide +kernel
theorem dX3_inputs_34 : decode cX3_inputs 34 = .ok (.ireturn, 1) := by decide +kernel
theorem dX3_tdoDue_0 : decode cX3_tdoDue 0 = .ok (.aload_n 0, 1) := by decide +kernel
theorem dX3_tdoDue_1 : decode cX3_tdoDue 1 = .ok (.iload_n 1, 1) := by decide +kernel
theorem dX3_tdoDue_2 : decode cX3_tdoDue 2 = .ok (.invokevirtual 54, 3) := by decide +kernel
theorem dX3_tdoDue_5 : decode cX3_tdoDue 5 = .ok (.ifCond .eq 11, 3) := by decide +kernel
theorem dX3_tdoDue_8 : decode cX3_tdoDue 8 = .ok (.aload_n 0, 1) := by decide +kernel
theorem dX3_tdoDue_9 : decode cX3_tdoDue 9 = .ok (.iload_n 1, 1) := by decide +kernel
theorem dX3_tdoDue_10 : decode cX3_tdoDue 10 = .ok (.invokevirtual 58, 3) := by decide +kernel
theorem dX3_tdoDue_13 : decode cX3_tdoDue 13 = .ok (.ifCond .ne 5, 3) := by decide +kernel
theorem dX3_tdoDue_16 : decode cX3_tdoDue 16 = .ok (.iconst 2, 1) := by decide +kernel
theorem dX3_tdoDue_17 : decode cX3_tdoDue 17 = .ok (.ireturn, 1) := by decide +kernel
theorem dX3_tdoDue_18 : decode cX3_tdoDue 18 = .ok (.aload_n 0, 1) := by decide +kernel
theorem dX3_tdoDue_19 : decode cX3_tdoDue 19 = .ok (.getfield 9, 3) := by decide +kernel
theorem dX3_tdoDue_22 : decode cX3_tdoDue 22 = .ok (.aload_n 0, 1) := by decide +kernel
theorem dX3_tdoDue_23 : decode cX3_tdoDue 23 = .ok (.getfield 15, 3) := by decide +kernel
theorem dX3_tdoDue_26 : decode cX3_tdoDue 26 = .ok (.getfield 76, 3) := by decide +kernel
theorem dX3_tdoDue_29 : decode cX3_tdoDue 29 = .ok (.aload_n 0, 1) := by decide +kernel
theorem dX3_tdoDue_30 : decode cX3_tdoDue 30 = .ok (.iload_n 1, 1) := by decide +kernel
theorem dX3_tdoDue_31 : decode cX3_tdoDue 31 = .ok (.invokevirtual 58, 3) := by decide +kernel
theorem dX3_tdoDue_34 : decode cX3_tdoDue 34 = .ok (.iconst 1, 1) := by decide +kernel
theorem dX3_tdoDue_35 : decode cX3_tdoDue 35 = .ok (.isub, 1) := by decide +kernel
theorem dX3_tdoDue_36 : decode cX3_tdoDue 36 = .ok (.iaload, 1) := by decide +kernel
theorem dX3_tdoDue_37 : decode cX3_tdoDue 37 = .ok (.invokevirtual 79, 3) := by decide +kernel
theorem dX3_tdoDue_40 : decode cX3_tdoDue 40 = .ok (.aload_n 0, 1) := by decide +kernel
theorem dX3_tdoDue_41 : decode cX3_tdoDue 41 = .ok (.iload_n 1, 1) := by decide +kernel
theorem dX3_tdoDue_42 : decode cX3_tdoDue 42 = .ok (.invokevirtual 67, 3) := by decide +kernel
theorem dX3_tdoDue_45 : decode cX3_tdoDue 45 = .ok (.ishr, 1) := by decide +kernel
theorem dX3_tdoDue_46 : decode cX3_tdoDue 46 = .ok (.iconst 1, 1) := by decide +kernel
theorem dX3_tdoDue_47 : decode cX3_tdoDue 47 = .ok (.iand, 1) := by decide +kernel
theorem dX3_tdoDue_48 : decode cX3_tdoDue 48 = .ok (.ireturn, 1) := by decide +kernel
theorem dX3_outputsDue_0 : decode cX3_outputsDue 0 = .ok (.aload_n 0, 1) := by decide +kernel
theorem dX3_outputsDue_1 : decode cX3_outputsDue 1 = .ok (.iload_n 1, 1) := by decide +kernel
theorem dX3_outputsDue_2 : decode cX3_outputsDue 2 = .ok (.invokevirtual 70, 3) := by decide +kernel
theorem dX3_outputsDue_5 : decode cX3_outputsDue 5 = .ok (.ifCond .eq 28, 3) := by decide +kernel
theorem dX3_outputsDue_8 : decode cX3_outputsDue 8 = .ok (.aload_n 0, 1) := by decide +kernel
theorem dX3_outputsDue_9 : decode cX3_outputsDue 9 = .ok (.getfield 9, 3) := by decide +kernel
theorem dX3_outputsDue_12 : decode cX3_outputsDue 12 = .ok (.aload_n 0, 1) := by decide +kernel
theorem dX3_outputsDue_13 : decode cX3_outputsDue 13 = .ok (.getfield 15, 3) := by decide +kernel
theorem dX3_outputsDue_16 : decode cX3_outputsDue 16 = .ok (.getfield 76, 3) := by decide +kernel
theorem dX3_outputsDue_19 : decode cX3_outputsDue 19 = .ok (.aload_n 0, 1) := by decide +kernel
theorem dX3_outputsDue_20 : decode cX3_outputsDue 20 = .ok (.iload_n 1, 1) := by decide +kernel
theorem dX3_outputsDue_21 : decode cX3_outputsDue 21 = .ok (.invokevirtual 58, 3) := by decide +kernel
theorem dX3_outputsDue_24 : decode cX3_outputsDue 24 = .ok (.iconst 1, 1) := by decide +kernel
theorem dX3_outputsDue_25 : decode cX3_outputsDue 25 = .ok (.isub, 1) := by decide +kernel
theorem dX3_outputsDue_26 : decode cX3_outputsDue 26 = .ok (.iaload, 1) := by decide +kernel
theorem dX3_outputsDue_27 : decode cX3_outputsDue 27 = .ok (.invokevirtual 82, 3) := by decide +kernel
theorem dX3_outputsDue_30 : decode cX3_outputsDue 30 = .ok (.goto 4, 3) := by decide +kernel
theorem dX3_outputsDue_33 : decode cX3_outputsDue 33 = .ok (.iconst (-1), 1) := by decide +kernel
theorem dX3_outputsDue_34 : decode cX3_outputsDue 34 = .ok (.ireturn, 1) := by decide +kernel
theorem dX3_failingRow_0 : decode cX3_failingRow 0 = .ok (.aload_n 0, 1) := by decide +kernel
theorem dX3_failingRow_1 : decode cX3_failingRow 1 = .ok (.getfield 24, 3) := by decide +kernel
theorem dX3_failingRow_4 : decode cX3_failingRow 4 = .ok (.iload_n 1, 1) := by decide +kernel
theorem dX3_failingRow_5 : decode cX3_failingRow 5 = .ok (.invokevirtual 85, 3) := by decide +kernel
theorem dX3_failingRow_8 : decode cX3_failingRow 8 = .ok (.aload_n 0, 1) := by decide +kernel
theorem dX3_failingRow_9 : decode cX3_failingRow 9 = .ok (.invokevirtual 89, 3) := by decide +kernel
theorem dX3_failingRow_12 : decode cX3_failingRow 12 = .ok (.istore_n 2, 1) := by decide +kernel
theorem dX3_failingRow_13 : decode cX3_failingRow 13 = .ok (.iconst 0, 1) := by decide +kernel
theorem dX3_failingRow_14 : decode cX3_failingRow 14 = .ok (.istore_n 3, 1) := by decide +kernel
theorem dX3_failingRow_15 : decode cX3_failingRow 15 = .ok (.iload_n 3, 1) := by decide +kernel
theorem dX3_failingRow_16 : decode cX3_failingRow 16 = .ok (.iload_n 2, 1) := by decide +kernel
theorem dX3_failingRow_17 : decode cX3_failingRow 17 = .ok (.if_icmp .ge 41, 3) := by decide +kernel
theorem dX3_failingRow_20 : decode cX3_failingRow 20 = .ok (.aload_n 0, 1) := by decide +kernel
theorem dX3_failingRow_21 : decode cX3_failingRow 21 = .ok (.iload_n 3, 1) := by decide +kernel
theorem dX3_failingRow_22 : decode cX3_failingRow 22 = .ok (.invokevirtual 92, 3) := by decide +kernel
theorem dX3_failingRow_25 : decode cX3_failingRow 25 = .ok (.ifCond .ne 5, 3) := by decide +kernel
theorem dX3_failingRow_28 : decode cX3_failingRow 28 = .ok (.iload_n 3, 1) := by decide +kernel
theorem dX3_failingRow_29 : decode cX3_failingRow 29 = .ok (.ireturn, 1) := by decide +kernel
theorem dX3_failingRow_30 : decode cX3_failingRow 30 = .ok (.aload_n 0, 1) := by decide +kernel
theorem dX3_failingRow_31 : decode cX3_failingRow 31 = .ok (.getfield 24, 3) := by decide +kernel
theorem dX3_failingRow_34 : decode cX3_failingRow 34 = .ok (.aload_n 0, 1) := by decide +kernel
theorem dX3_failingRow_35 : decode cX3_failingRow 35 = .ok (.iload_n 3, 1) := by decide +kernel
theorem dX3_failingRow_36 : decode cX3_failingRow 36 = .ok (.invokevirtual 95, 3) := by decide +kernel
theorem dX3_failingRow_39 : decode cX3_failingRow 39 = .ok (.aload_n 0, 1) := by decide +kernel
theorem dX3_failingRow_40 : decode cX3_failingRow 40 = .ok (.iload_n 3, 1) := by decide +kernel
theorem dX3_failingRow_41 : decode cX3_failingRow 41 = .ok (.invokevirtual 98, 3) := by decide +kernel
theorem dX3_failingRow_44 : decode cX3_failingRow 44 = .ok (.aload_n 0, 1) := by decide +kernel
theorem dX3_failingRow_45 : decode cX3_failingRow 45 = .ok (.iload_n 3, 1) := by decide +kernel
theorem dX3_failingRow_46 : decode cX3_failingRow 46 = .ok (.invokevirtual 101, 3) := by decide +kernel
theorem dX3_failingRow_49 : decode cX3_failingRow 49 = .ok (.invokevirtual 103, 3) := by decide +kernel
theorem dX3_failingRow_52 : decode cX3_failingRow 52 = .ok (.iinc 3 1, 3) := by decide +kernel
theorem dX3_failingRow_55 : decode cX3_failingRow 55 = .ok (.goto (-40), 3) := by decide +kernel
theorem dX3_failingRow_58 : decode cX3_failingRow 58 = .ok (.iconst (-1), 1) := by decide +kernel
theorem dX3_failingRow_59 : decode cX3_failingRow 59 = .ok (.ireturn, 1) := by decide +kernel
theorem dX3_showsWhatIsDue_0 : decode cX3_showsWhatIsDue 0 = .ok (.aload_n 0, 1) := by decide +kernel
theorem dX3_showsWhatIsDue_1 : decode cX3_showsWhatIsDue 1 = .ok (.iload_n 1, 1) := by decide +kernel
theorem dX3_showsWhatIsDue_2 : decode cX3_showsWhatIsDue 2 = .ok (.invokevirtual 107, 3) := by decide +kernel
theorem dX3_showsWhatIsDue_5 : decode cX3_showsWhatIsDue 5 = .ok (.istore_n 2, 1) := by decide +kernel
theorem dX3_showsWhatIsDue_6 : decode cX3_showsWhatIsDue 6 = .ok (.iload_n 2, 1) := by decide +kernel
theorem dX3_showsWhatIsDue_7 : decode cX3_showsWhatIsDue 7 = .ok (.iconst 2, 1) := by decide +kernel
theorem dX3_showsWhatIsDue_8 : decode cX3_showsWhatIsDue 8 = .ok (.if_icmp .eq 21, 3) := by decide +kernel
theorem dX3_showsWhatIsDue_11 : decode cX3_showsWhatIsDue 11 = .ok (.iload_n 2, 1) := by decide +kernel
theorem dX3_showsWhatIsDue_12 : decode cX3_showsWhatIsDue 12 = .ok (.aload_n 0, 1) := by decide +kernel
theorem dX3_showsWhatIsDue_13 : decode cX3_showsWhatIsDue 13 = .ok (.getfield 24, 3) := by decide +kernel
theorem dX3_showsWhatIsDue_16 : decode cX3_showsWhatIsDue 16 = .ok (.aload_n 0, 1) := by decide +kernel
theorem dX3_showsWhatIsDue_17 : decode cX3_showsWhatIsDue 17 = .ok (.iload_n 1, 1) := by decide +kernel
theorem dX3_showsWhatIsDue_18 : decode cX3_showsWhatIsDue 18 = .ok (.invokevirtual 98, 3) := by decide +kernel
theorem dX3_showsWhatIsDue_21 : decode cX3_showsWhatIsDue 21 = .ok (.invokevirtual 110, 3) := by decide +kernel
theorem dX3_showsWhatIsDue_24 : decode cX3_showsWhatIsDue 24 = .ok (.if_icmp .eq 5, 3) := by decide +kernel
theorem dX3_showsWhatIsDue_27 : decode cX3_showsWhatIsDue 27 = .ok (.iconst 0, 1) := by decide +kernel
theorem dX3_showsWhatIsDue_28 : decode cX3_showsWhatIsDue 28 = .ok (.ireturn, 1) := by decide +kernel
theorem dX3_showsWhatIsDue_29 : decode cX3_showsWhatIsDue 29 = .ok (.aload_n 0, 1) := by decide +kernel
theorem dX3_showsWhatIsDue_30 : decode cX3_showsWhatIsDue 30 = .ok (.iload_n 1, 1) := by decide +kernel
theorem dX3_showsWhatIsDue_31 : decode cX3_showsWhatIsDue 31 = .ok (.invokevirtual 113, 3) := by decide +kernel
theorem dX3_showsWhatIsDue_34 : decode cX3_showsWhatIsDue 34 = .ok (.istore_n 3, 1) := by decide +kernel
theorem dX3_showsWhatIsDue_35 : decode cX3_showsWhatIsDue 35 = .ok (.iload_n 3, 1) := by decide +kernel
theorem dX3_showsWhatIsDue_36 : decode cX3_showsWhatIsDue 36 = .ok (.iconst (-1), 1) := by decide +kernel
theorem dX3_showsWhatIsDue_37 : decode cX3_showsWhatIsDue 37 = .ok (.if_icmp .eq 19, 3) := by decide +kernel
theorem dX3_showsWhatIsDue_40 : decode cX3_showsWhatIsDue 40 = .ok (.iload_n 3, 1) := by decide +kernel
theorem dX3_showsWhatIsDue_41 : decode cX3_showsWhatIsDue 41 = .ok (.aload_n 0, 1) := by decide +kernel
theorem dX3_showsWhatIsDue_42 : decode cX3_showsWhatIsDue 42 = .ok (.getfield 24, 3) := by decide +kernel
theorem dX3_showsWhatIsDue_45 : decode cX3_showsWhatIsDue 45 = .ok (.aload_n 0, 1) := by decide +kernel
theorem dX3_showsWhatIsDue_46 : decode cX3_showsWhatIsDue 46 = .ok (.iload_n 1, 1) := by decide +kernel
theorem dX3_showsWhatIsDue_47 : decode cX3_showsWhatIsDue 47 = .ok (.invokevirtual 101, 3) := by decide +kernel
theorem dX3_showsWhatIsDue_50 : decode cX3_showsWhatIsDue 50 = .ok (.invokevirtual 116, 3) := by decide +kernel
theorem dX3_showsWhatIsDue_53 : decode cX3_showsWhatIsDue 53 = .ok (.if_icmp .ne 7, 3) := by decide +kernel
theorem dX3_showsWhatIsDue_56 : decode cX3_showsWhatIsDue 56 = .ok (.iconst 1, 1) := by decide +kernel
theorem dX3_showsWhatIsDue_57 : decode cX3_showsWhatIsDue 57 = .ok (.goto 4, 3) := by decide +kernel
theorem dX3_showsWhatIsDue_60 : decode cX3_showsWhatIsDue 60 = .ok (.iconst 0, 1) := by decide +kernel
theorem dX3_showsWhatIsDue_61 : decode cX3_showsWhatIsDue 61 = .ok (.ireturn, 1) := by decide +kernel
theorem dX3_stepsOfTest_0 : decode cX3_stepsOfTest 0 = .ok (.iconst 4, 1) := by decide +kernel
theorem dX3_stepsOfTest_1 : decode cX3_stepsOfTest 1 = .ok (.aload_n 0, 1) := by decide +kernel
theorem dX3_stepsOfTest_2 : decode cX3_stepsOfTest 2 = .ok (.getfield 9, 3) := by decide +kernel
theorem dX3_stepsOfTest_5 : decode cX3_stepsOfTest 5 = .ok (.getfield 46, 3) := by decide +kernel
theorem dX3_stepsOfTest_8 : decode cX3_stepsOfTest 8 = .ok (.iadd, 1) := by decide +kernel
theorem dX3_stepsOfTest_9 : decode cX3_stepsOfTest 9 = .ok (.ireturn, 1) := by decide +kernel
theorem dX3_turn_0 : decode cX3_turn 0 = .ok (.iload_n 1, 1) := by decide +kernel
theorem dX3_turn_1 : decode cX3_turn 1 = .ok (.bipush 14, 2) := by decide +kernel
theorem dX3_turn_3 : decode cX3_turn 3 = .ok (.isub, 1) := by decide +kernel
theorem dX3_turn_4 : decode cX3_turn 4 = .ok (.aload_n 0, 1) := by decide +kernel
theorem dX3_turn_5 : decode cX3_turn 5 = .ok (.invokevirtual 34, 3) := by decide +kernel
theorem dX3_turn_8 : decode cX3_turn 8 = .ok (.idiv, 1) := by decide +kernel
theorem dX3_turn_9 : decode cX3_turn 9 = .ok (.ireturn, 1) := by decide +kernel
theorem dX3_step_0 : decode cX3_step 0 = .ok (.iload_n 1, 1) := by decide +kernel
theorem dX3_step_1 : decode cX3_step 1 = .ok (.bipush 14, 2) := by decide +kernel
theorem dX3_step_3 : decode cX3_step 3 = .ok (.isub, 1) := by decide +kernel
theorem dX3_step_4 : decode cX3_step 4 = .ok (.aload_n 0, 1) := by decide +kernel
theorem dX3_step_5 : decode cX3_step 5 = .ok (.invokevirtual 34, 3) := by decide +kernel
theorem dX3_step_8 : decode cX3_step 8 = .ok (.irem, 1) := by decide +kernel
theorem dX3_step_9 : decode cX3_step 9 = .ok (.ireturn, 1) := by decide +kernel
theorem dX3_isShift_0 : decode cX3_isShift 0 = .ok (.iload_n 1, 1) := by decide +kernel
theorem dX3_isShift_1 : decode cX3_isShift 1 = .ok (.bipush 14, 2) := by decide +kernel
theorem dX3_isShift_3 : decode cX3_isShift 3 = .ok (.if_icmp .lt 33, 3) := by decide +kernel
theorem dX3_isShift_6 : decode cX3_isShift 6 = .ok (.aload_n 0, 1) := by decide +kernel
theorem dX3_isShift_7 : decode cX3_isShift 7 = .ok (.iload_n 1, 1) := by decide +kernel
theorem dX3_isShift_8 : decode cX3_isShift 8 = .ok (.invokevirtual 42, 3) := by decide +kernel
theorem dX3_isShift_11 : decode cX3_isShift 11 = .ok (.iconst 2, 1) := by decide +kernel
theorem dX3_isShift_12 : decode cX3_isShift 12 = .ok (.if_icmp .lt 24, 3) := by decide +kernel
theorem dX3_isShift_15 : decode cX3_isShift 15 = .ok (.aload_n 0, 1) := by decide +kernel
theorem dX3_isShift_16 : decode cX3_isShift 16 = .ok (.iload_n 1, 1) := by decide +kernel
theorem dX3_isShift_17 : decode cX3_isShift 17 = .ok (.invokevirtual 42, 3) := by decide +kernel
theorem dX3_isShift_20 : decode cX3_isShift 20 = .ok (.iconst 2, 1) := by decide +kernel
theorem dX3_isShift_21 : decode cX3_isShift 21 = .ok (.aload_n 0, 1) := by decide +kernel
theorem dX3_isShift_22 : decode cX3_isShift 22 = .ok (.getfield 9, 3) := by decide +kernel
theorem dX3_isShift_25 : decode cX3_isShift 25 = .ok (.getfield 46, 3) := by decide +kernel
theorem dX3_isShift_28 : decode cX3_isShift 28 = .ok (.iadd, 1) := by decide +kernel
theorem dX3_isShift_29 : decode cX3_isShift 29 = .ok (.if_icmp .ge 7, 3) := by decide +kernel
theorem dX3_isShift_32 : decode cX3_isShift 32 = .ok (.iconst 1, 1) := by decide +kernel
theorem dX3_isShift_33 : decode cX3_isShift 33 = .ok (.goto 4, 3) := by decide +kernel
theorem dX3_isShift_36 : decode cX3_isShift 36 = .ok (.iconst 0, 1) := by decide +kernel
theorem dX3_isShift_37 : decode cX3_isShift 37 = .ok (.ireturn, 1) := by decide +kernel
theorem dX3_flopOfShift_0 : decode cX3_flopOfShift 0 = .ok (.aload_n 0, 1) := by decide +kernel
theorem dX3_flopOfShift_1 : decode cX3_flopOfShift 1 = .ok (.getfield 9, 3) := by decide +kernel
theorem dX3_flopOfShift_4 : decode cX3_flopOfShift 4 = .ok (.getfield 46, 3) := by decide +kernel
theorem dX3_flopOfShift_7 : decode cX3_flopOfShift 7 = .ok (.iconst 1, 1) := by decide +kernel
theorem dX3_flopOfShift_8 : decode cX3_flopOfShift 8 = .ok (.isub, 1) := by decide +kernel
theorem dX3_flopOfShift_9 : decode cX3_flopOfShift 9 = .ok (.aload_n 0, 1) := by decide +kernel
theorem dX3_flopOfShift_10 : decode cX3_flopOfShift 10 = .ok (.iload_n 1, 1) := by decide +kernel
theorem dX3_flopOfShift_11 : decode cX3_flopOfShift 11 = .ok (.invokevirtual 42, 3) := by decide +kernel
theorem dX3_flopOfShift_14 : decode cX3_flopOfShift 14 = .ok (.iconst 2, 1) := by decide +kernel
theorem dX3_flopOfShift_15 : decode cX3_flopOfShift 15 = .ok (.isub, 1) := by decide +kernel
theorem dX3_flopOfShift_16 : decode cX3_flopOfShift 16 = .ok (.isub, 1) := by decide +kernel
theorem dX3_flopOfShift_17 : decode cX3_flopOfShift 17 = .ok (.ireturn, 1) := by decide +kernel
theorem dX3_capturesTest_0 : decode cX3_capturesTest 0 = .ok (.iload_n 1, 1) := by decide +kernel
theorem dX3_capturesTest_1 : decode cX3_capturesTest 1 = .ok (.bipush 14, 2) := by decide +kernel
theorem dX3_capturesTest_3 : decode cX3_capturesTest 3 = .ok (.if_icmp .lt 24, 3) := by decide +kernel
theorem dX3_capturesTest_6 : decode cX3_capturesTest 6 = .ok (.aload_n 0, 1) := by decide +kernel
theorem dX3_capturesTest_7 : decode cX3_capturesTest 7 = .ok (.iload_n 1, 1) := by decide +kernel
theorem dX3_capturesTest_8 : decode cX3_capturesTest 8 = .ok (.invokevirtual 42, 3) := by decide +kernel
theorem dX3_capturesTest_11 : decode cX3_capturesTest 11 = .ok (.iconst 1, 1) := by decide +kernel
theorem dX3_capturesTest_12 : decode cX3_capturesTest 12 = .ok (.if_icmp .ne 15, 3) := by decide +kernel
theorem dX3_capturesTest_15 : decode cX3_capturesTest 15 = .ok (.aload_n 0, 1) := by decide +kernel
theorem dX3_capturesTest_16 : decode cX3_capturesTest 16 = .ok (.iload_n 1, 1) := by decide +kernel
theorem dX3_capturesTest_17 : decode cX3_capturesTest 17 = .ok (.invokevirtual 58, 3) := by decide +kernel
theorem dX3_capturesTest_20 : decode cX3_capturesTest 20 = .ok (.ifCond .le 7, 3) := by decide +kernel
theorem dX3_capturesTest_23 : decode cX3_capturesTest 23 = .ok (.iconst 1, 1) := by decide +kernel
theorem dX3_capturesTest_24 : decode cX3_capturesTest 24 = .ok (.goto 4, 3) := by decide +kernel
theorem dX3_capturesTest_27 : decode cX3_capturesTest 27 = .ok (.iconst 0, 1) := by decide +kernel
theorem dX3_capturesTest_28 : decode cX3_capturesTest 28 = .ok (.ireturn, 1) := by decide +kernel
