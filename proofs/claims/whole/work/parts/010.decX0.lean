theorem dX0_init_0 : decode cX0_init 0 = .ok (.aload_n 0, 1) := by decide +kernel
theorem dX0_init_1 : decode cX0_init 1 = .ok (.invokespecial 3, 3) := by decide +kernel
theorem dX0_init_4 : decode cX0_init 4 = .ok (.aload_n 0, 1) := by decide +kernel
theorem dX0_init_5 : decode cX0_init 5 = .ok (.iconst (-1), 1) := by decide +kernel
theorem dX0_init_6 : decode cX0_init 6 = .ok (.putfield 9, 3) := by decide +kernel
theorem dX0_init_9 : decode cX0_init 9 = .ok (.aload_n 0, 1) := by decide +kernel
theorem dX0_init_10 : decode cX0_init 10 = .ok (.iconst 0, 1) := by decide +kernel
theorem dX0_init_11 : decode cX0_init 11 = .ok (.putfield 15, 3) := by decide +kernel
theorem dX0_init_14 : decode cX0_init 14 = .ok (.aload_n 0, 1) := by decide +kernel
theorem dX0_init_15 : decode cX0_init 15 = .ok (.iconst 3, 1) := by decide +kernel
theorem dX0_init_16 : decode cX0_init 16 = .ok (.putfield 18, 3) := by decide +kernel
theorem dX0_init_19 : decode cX0_init 19 = .ok (.aload_n 0, 1) := by decide +kernel
theorem dX0_init_20 : decode cX0_init 20 = .ok (.aload_n 1, 1) := by decide +kernel
theorem dX0_init_21 : decode cX0_init 21 = .ok (.putfield 21, 3) := by decide +kernel
theorem dX0_init_24 : decode cX0_init 24 = .ok (.return_, 1) := by decide +kernel
theorem dX0_renew_0 : decode cX0_renew 0 = .ok (.aload_n 0, 1) := by decide +kernel
theorem dX0_renew_1 : decode cX0_renew 1 = .ok (.iload_n 1, 1) := by decide +kernel
theorem dX0_renew_2 : decode cX0_renew 2 = .ok (.putfield 9, 3) := by decide +kernel
theorem dX0_renew_5 : decode cX0_renew 5 = .ok (.aload_n 0, 1) := by decide +kernel
theorem dX0_renew_6 : decode cX0_renew 6 = .ok (.iconst 0, 1) := by decide +kernel
theorem dX0_renew_7 : decode cX0_renew 7 = .ok (.putfield 15, 3) := by decide +kernel
theorem dX0_renew_10 : decode cX0_renew 10 = .ok (.aload_n 0, 1) := by decide +kernel
theorem dX0_renew_11 : decode cX0_renew 11 = .ok (.iconst 3, 1) := by decide +kernel
theorem dX0_renew_12 : decode cX0_renew 12 = .ok (.putfield 18, 3) := by decide +kernel
theorem dX0_renew_15 : decode cX0_renew 15 = .ok (.aload_n 0, 1) := by decide +kernel
theorem dX0_renew_16 : decode cX0_renew 16 = .ok (.iconst 0, 1) := by decide +kernel
theorem dX0_renew_17 : decode cX0_renew 17 = .ok (.putfield 25, 3) := by decide +kernel
theorem dX0_renew_20 : decode cX0_renew 20 = .ok (.aload_n 0, 1) := by decide +kernel
theorem dX0_renew_21 : decode cX0_renew 21 = .ok (.iconst 0, 1) := by decide +kernel
theorem dX0_renew_22 : decode cX0_renew 22 = .ok (.putfield 28, 3) := by decide +kernel
theorem dX0_renew_25 : decode cX0_renew 25 = .ok (.aload_n 0, 1) := by decide +kernel
theorem dX0_renew_26 : decode cX0_renew 26 = .ok (.iconst 0, 1) := by decide +kernel
theorem dX0_renew_27 : decode cX0_renew 27 = .ok (.putfield 31, 3) := by decide +kernel
theorem dX0_renew_30 : decode cX0_renew 30 = .ok (.return_, 1) := by decide +kernel
theorem dX0_outputs_0 : decode cX0_outputs 0 = .ok (.aload_n 0, 1) := by decide +kernel
theorem dX0_outputs_1 : decode cX0_outputs 1 = .ok (.getfield 21, 3) := by decide +kernel
theorem dX0_outputs_4 : decode cX0_outputs 4 = .ok (.aload_n 0, 1) := by decide +kernel
theorem dX0_outputs_5 : decode cX0_outputs 5 = .ok (.getfield 21, 3) := by decide +kernel
theorem dX0_outputs_8 : decode cX0_outputs 8 = .ok (.aload_n 0, 1) := by decide +kernel
theorem dX0_outputs_9 : decode cX0_outputs 9 = .ok (.iload_n 1, 1) := by decide +kernel
theorem dX0_outputs_10 : decode cX0_outputs 10 = .ok (.invokevirtual 34, 3) := by decide +kernel
theorem dX0_outputs_13 : decode cX0_outputs 13 = .ok (.aload_n 0, 1) := by decide +kernel
theorem dX0_outputs_14 : decode cX0_outputs 14 = .ok (.getfield 9, 3) := by decide +kernel
theorem dX0_outputs_17 : decode cX0_outputs 17 = .ok (.invokevirtual 38, 3) := by decide +kernel
theorem dX0_outputs_20 : decode cX0_outputs 20 = .ok (.invokevirtual 44, 3) := by decide +kernel
theorem dX0_outputs_23 : decode cX0_outputs 23 = .ok (.ireturn, 1) := by decide +kernel
theorem dX0_tdo_0 : decode cX0_tdo 0 = .ok (.aload_n 0, 1) := by decide +kernel
theorem dX0_tdo_1 : decode cX0_tdo 1 = .ok (.getfield 15, 3) := by decide +kernel
theorem dX0_tdo_4 : decode cX0_tdo 4 = .ok (.bipush 11, 2) := by decide +kernel
theorem dX0_tdo_6 : decode cX0_tdo 6 = .ok (.if_icmp .ne 10, 3) := by decide +kernel
theorem dX0_tdo_9 : decode cX0_tdo 9 = .ok (.aload_n 0, 1) := by decide +kernel
theorem dX0_tdo_10 : decode cX0_tdo 10 = .ok (.getfield 31, 3) := by decide +kernel
theorem dX0_tdo_13 : decode cX0_tdo 13 = .ok (.iconst 1, 1) := by decide +kernel
theorem dX0_tdo_14 : decode cX0_tdo 14 = .ok (.iand, 1) := by decide +kernel
theorem dX0_tdo_15 : decode cX0_tdo 15 = .ok (.ireturn, 1) := by decide +kernel
theorem dX0_tdo_16 : decode cX0_tdo 16 = .ok (.aload_n 0, 1) := by decide +kernel
theorem dX0_tdo_17 : decode cX0_tdo 17 = .ok (.getfield 15, 3) := by decide +kernel
theorem dX0_tdo_20 : decode cX0_tdo 20 = .ok (.iconst 4, 1) := by decide +kernel
theorem dX0_tdo_21 : decode cX0_tdo 21 = .ok (.if_icmp .eq 5, 3) := by decide +kernel
theorem dX0_tdo_24 : decode cX0_tdo 24 = .ok (.iconst 0, 1) := by decide +kernel
theorem dX0_tdo_25 : decode cX0_tdo 25 = .ok (.ireturn, 1) := by decide +kernel
theorem dX0_tdo_26 : decode cX0_tdo 26 = .ok (.aload_n 0, 1) := by decide +kernel
theorem dX0_tdo_27 : decode cX0_tdo 27 = .ok (.getfield 18, 3) := by decide +kernel
theorem dX0_tdo_30 : decode cX0_tdo 30 = .ok (.iconst 1, 1) := by decide +kernel
theorem dX0_tdo_31 : decode cX0_tdo 31 = .ok (.if_icmp .eq 8, 3) := by decide +kernel
theorem dX0_tdo_34 : decode cX0_tdo 34 = .ok (.aload_n 0, 1) := by decide +kernel
theorem dX0_tdo_35 : decode cX0_tdo 35 = .ok (.getfield 28, 3) := by decide +kernel
theorem dX0_tdo_38 : decode cX0_tdo 38 = .ok (.ireturn, 1) := by decide +kernel
theorem dX0_tdo_39 : decode cX0_tdo 39 = .ok (.aload_n 0, 1) := by decide +kernel
theorem dX0_tdo_40 : decode cX0_tdo 40 = .ok (.getfield 21, 3) := by decide +kernel
theorem dX0_tdo_43 : decode cX0_tdo 43 = .ok (.getfield 47, 3) := by decide +kernel
theorem dX0_tdo_46 : decode cX0_tdo 46 = .ok (.ifCond .ne 7, 3) := by decide +kernel
theorem dX0_tdo_49 : decode cX0_tdo 49 = .ok (.iload_n 1, 1) := by decide +kernel
theorem dX0_tdo_50 : decode cX0_tdo 50 = .ok (.goto 19, 3) := by decide +kernel
theorem dX0_tdo_53 : decode cX0_tdo 53 = .ok (.aload_n 0, 1) := by decide +kernel
theorem dX0_tdo_54 : decode cX0_tdo 54 = .ok (.getfield 25, 3) := by decide +kernel
theorem dX0_tdo_57 : decode cX0_tdo 57 = .ok (.aload_n 0, 1) := by decide +kernel
theorem dX0_tdo_58 : decode cX0_tdo 58 = .ok (.getfield 21, 3) := by decide +kernel
theorem dX0_tdo_61 : decode cX0_tdo 61 = .ok (.getfield 47, 3) := by decide +kernel
theorem dX0_tdo_64 : decode cX0_tdo 64 = .ok (.iconst 1, 1) := by decide +kernel
theorem dX0_tdo_65 : decode cX0_tdo 65 = .ok (.isub, 1) := by decide +kernel
theorem dX0_tdo_66 : decode cX0_tdo 66 = .ok (.ishr, 1) := by decide +kernel
theorem dX0_tdo_67 : decode cX0_tdo 67 = .ok (.iconst 1, 1) := by decide +kernel
theorem dX0_tdo_68 : decode cX0_tdo 68 = .ok (.iand, 1) := by decide +kernel
theorem dX0_tdo_69 : decode cX0_tdo 69 = .ok (.ireturn, 1) := by decide +kernel
theorem dX0_pulse_0 : decode cX0_pulse 0 = .ok (.aload_n 0, 1) := by decide +kernel
theorem dX0_pulse_1 : decode cX0_pulse 1 = .ok (.getfield 15, 3) := by decide +kernel
theorem dX0_pulse_4 : decode cX0_pulse 4 = .ok (.tableswitch 148 0 15 #[80, 88, 148, 96, 104, 148, 148, 148, 148, 148, 112, 120, 148, 148, 148, 137], 80) := by decide +kernel
theorem dX0_pulse_84 : decode cX0_pulse 84 = .ok (.aload_n 0, 1) := by decide +kernel
theorem dX0_pulse_85 : decode cX0_pulse 85 = .ok (.iconst 3, 1) := by decide +kernel
theorem dX0_pulse_86 : decode cX0_pulse 86 = .ok (.putfield 18, 3) := by decide +kernel
theorem dX0_pulse_89 : decode cX0_pulse 89 = .ok (.goto 63, 3) := by decide +kernel
theorem dX0_pulse_92 : decode cX0_pulse 92 = .ok (.aload_n 0, 1) := by decide +kernel
theorem dX0_pulse_93 : decode cX0_pulse 93 = .ok (.iload_n 3, 1) := by decide +kernel
theorem dX0_pulse_94 : decode cX0_pulse 94 = .ok (.invokevirtual 50, 3) := by decide +kernel
theorem dX0_pulse_97 : decode cX0_pulse 97 = .ok (.goto 55, 3) := by decide +kernel
theorem dX0_pulse_100 : decode cX0_pulse 100 = .ok (.aload_n 0, 1) := by decide +kernel
theorem dX0_pulse_101 : decode cX0_pulse 101 = .ok (.iload_n 3, 1) := by decide +kernel
theorem dX0_pulse_102 : decode cX0_pulse 102 = .ok (.invokevirtual 54, 3) := by decide +kernel
theorem dX0_pulse_105 : decode cX0_pulse 105 = .ok (.goto 47, 3) := by decide +kernel
theorem dX0_pulse_108 : decode cX0_pulse 108 = .ok (.aload_n 0, 1) := by decide +kernel
theorem dX0_pulse_109 : decode cX0_pulse 109 = .ok (.iload_n 2, 1) := by decide +kernel
theorem dX0_pulse_110 : decode cX0_pulse 110 = .ok (.invokevirtual 57, 3) := by decide +kernel
theorem dX0_pulse_113 : decode cX0_pulse 113 = .ok (.goto 39, 3) := by decide +kernel
theorem dX0_pulse_116 : decode cX0_pulse 116 = .ok (.aload_n 0, 1) := by decide +kernel
theorem dX0_pulse_117 : decode cX0_pulse 117 = .ok (.iconst 1, 1) := by decide +kernel
theorem dX0_pulse_118 : decode cX0_pulse 118 = .ok (.putfield 31, 3) := by decide +kernel
theorem dX0_pulse_121 : decode cX0_pulse 121 = .ok (.goto 31, 3) := by decide +kernel
theorem dX0_pulse_124 : decode cX0_pulse 124 = .ok (.aload_n 0, 1) := by decide +kernel
theorem dX0_pulse_125 : decode cX0_pulse 125 = .ok (.aload_n 0, 1) := by decide +kernel
theorem dX0_pulse_126 : decode cX0_pulse 126 = .ok (.getfield 31, 3) := by decide +kernel
theorem dX0_pulse_129 : decode cX0_pulse 129 = .ok (.iconst 1, 1) := by decide +kernel
theorem dX0_pulse_130 : decode cX0_pulse 130 = .ok (.ishr, 1) := by decide +kernel
theorem dX0_pulse_131 : decode cX0_pulse 131 = .ok (.iload_n 2, 1) := by decide +kernel
theorem dX0_pulse_132 : decode cX0_pulse 132 = .ok (.iconst 1, 1) := by decide +kernel
theorem dX0_pulse_133 : decode cX0_pulse 133 = .ok (.ishl, 1) := by decide +kernel
theorem dX0_pulse_134 : decode cX0_pulse 134 = .ok (.ior, 1) := by decide +kernel
theorem dX0_pulse_135 : decode cX0_pulse 135 = .ok (.putfield 31, 3) := by decide +kernel
theorem dX0_pulse_138 : decode cX0_pulse 138 = .ok (.goto 14, 3) := by decide +kernel
theorem dX0_pulse_141 : decode cX0_pulse 141 = .ok (.aload_n 0, 1) := by decide +kernel
theorem dX0_pulse_142 : decode cX0_pulse 142 = .ok (.aload_n 0, 1) := by decide +kernel
theorem dX0_pulse_143 : decode cX0_pulse 143 = .ok (.getfield 31, 3) := by decide +kernel
theorem dX0_pulse_146 : decode cX0_pulse 146 = .ok (.putfield 18, 3) := by decide +kernel
theorem dX0_pulse_149 : decode cX0_pulse 149 = .ok (.goto 3, 3) := by decide +kernel
theorem dX0_pulse_152 : decode cX0_pulse 152 = .ok (.aload_n 0, 1) := by decide +kernel
theorem dX0_pulse_153 : decode cX0_pulse 153 = .ok (.getstatic 60, 3) := by decide +kernel
theorem dX0_pulse_156 : decode cX0_pulse 156 = .ok (.iconst 2, 1) := by decide +kernel
theorem dX0_pulse_157 : decode cX0_pulse 157 = .ok (.aload_n 0, 1) := by decide +kernel
theorem dX0_pulse_158 : decode cX0_pulse 158 = .ok (.getfield 15, 3) := by decide +kernel
theorem dX0_pulse_161 : decode cX0_pulse 161 = .ok (.imul, 1) := by decide +kernel
theorem dX0_pulse_162 : decode cX0_pulse 162 = .ok (.iload_n 1, 1) := by decide +kernel
theorem dX0_pulse_163 : decode cX0_pulse 163 = .ok (.iadd, 1) := by decide +kernel
theorem dX0_pulse_164 : decode cX0_pulse 164 = .ok (.iaload, 1) := by decide +kernel
theorem dX0_pulse_165 : decode cX0_pulse 165 = .ok (.putfield 15, 3) := by decide +kernel
theorem dX0_pulse_168 : decode cX0_pulse 168 = .ok (.return_, 1) := by decide +kernel
theorem dX0_patternWith_0 : decode cX0_patternWith 0 = .ok (.iload_n 1, 1) := by decide +kernel
theorem dX0_patternWith_1 : decode cX0_patternWith 1 = .ok (.aload_n 0, 1) := by decide +kernel
theorem dX0_patternWith_2 : decode cX0_patternWith 2 = .ok (.getfield 25, 3) := by decide +kernel
theorem dX0_patternWith_5 : decode cX0_patternWith 5 = .ok (.aload_n 0, 1) := by decide +kernel
theorem dX0_patternWith_6 : decode cX0_patternWith 6 = .ok (.getfield 21, 3) := by decide +kernel
theorem dX0_patternWith_9 : decode cX0_patternWith 9 = .ok (.getfield 64, 3) := by decide +kernel
theorem dX0_patternWith_12 : decode cX0_patternWith 12 = .ok (.ishl, 1) := by decide +kernel
theorem dX0_patternWith_13 : decode cX0_patternWith 13 = .ok (.ior, 1) := by decide +kernel
theorem dX0_patternWith_14 : decode cX0_patternWith 14 = .ok (.ireturn, 1) := by decide +kernel
theorem dX0_idle_0 : decode cX0_idle 0 = .ok (.aload_n 0, 1) := by decide +kernel
theorem dX0_idle_1 : decode cX0_idle 1 = .ok (.getfield 18, 3) := by decide +kernel
theorem dX0_idle_4 : decode cX0_idle 4 = .ok (.iconst 1, 1) := by decide +kernel
theorem dX0_idle_5 : decode cX0_idle 5 = .ok (.if_icmp .eq 30, 3) := by decide +kernel
theorem dX0_idle_8 : decode cX0_idle 8 = .ok (.aload_n 0, 1) := by decide +kernel
theorem dX0_idle_9 : decode cX0_idle 9 = .ok (.aload_n 0, 1) := by decide +kernel
theorem dX0_idle_10 : decode cX0_idle 10 = .ok (.getfield 21, 3) := by decide +kernel
theorem dX0_idle_13 : decode cX0_idle 13 = .ok (.aload_n 0, 1) := by decide +kernel
theorem dX0_idle_14 : decode cX0_idle 14 = .ok (.getfield 21, 3) := by decide +kernel
theorem dX0_idle_17 : decode cX0_idle 17 = .ok (.aload_n 0, 1) := by decide +kernel
theorem dX0_idle_18 : decode cX0_idle 18 = .ok (.iload_n 1, 1) := by decide +kernel
theorem dX0_idle_19 : decode cX0_idle 19 = .ok (.invokevirtual 34, 3) := by decide +kernel
theorem dX0_idle_22 : decode cX0_idle 22 = .ok (.aload_n 0, 1) := by decide +kernel
theorem dX0_idle_23 : decode cX0_idle 23 = .ok (.getfield 9, 3) := by decide +kernel
theorem dX0_idle_26 : decode cX0_idle 26 = .ok (.invokevirtual 38, 3) := by decide +kernel
theorem dX0_idle_29 : decode cX0_idle 29 = .ok (.invokevirtual 67, 3) := by decide +kernel
theorem dX0_idle_32 : decode cX0_idle 32 = .ok (.putfield 25, 3) := by decide +kernel
theorem dX0_idle_35 : decode cX0_idle 35 = .ok (.return_, 1) := by decide +kernel
theorem dX0_capture_0 : decode cX0_capture 0 = .ok (.aload_n 0, 1) := by decide +kernel
theorem dX0_capture_1 : decode cX0_capture 1 = .ok (.getfield 18, 3) := by decide +kernel
theorem dX0_capture_4 : decode cX0_capture 4 = .ok (.iconst 1, 1) := by decide +kernel
theorem dX0_capture_5 : decode cX0_capture 5 = .ok (.if_icmp .ne 33, 3) := by decide +kernel
theorem dX0_capture_8 : decode cX0_capture 8 = .ok (.aload_n 0, 1) := by decide +kernel
theorem dX0_capture_9 : decode cX0_capture 9 = .ok (.aload_n 0, 1) := by decide +kernel
theorem dX0_capture_10 : decode cX0_capture 10 = .ok (.getfield 21, 3) := by decide +kernel
theorem dX0_capture_13 : decode cX0_capture 13 = .ok (.aload_n 0, 1) := by decide +kernel
theorem dX0_capture_14 : decode cX0_capture 14 = .ok (.getfield 21, 3) := by decide +kernel
theorem dX0_capture_17 : decode cX0_capture 17 = .ok (.aload_n 0, 1) := by decide +kernel
theorem dX0_capture_18 : decode cX0_capture 18 = .ok (.iload_n 1, 1) := by decide +kernel
theorem dX0_capture_19 : decode cX0_capture 19 = .ok (.invokevirtual 34, 3) := by decide +kernel
theorem dX0_capture_22 : decode cX0_capture 22 = .ok (.aload_n 0, 1) := by decide +kernel
theorem dX0_capture_23 : decode cX0_capture 23 = .ok (.getfield 9, 3) := by decide +kernel
theorem dX0_capture_26 : decode cX0_capture 26 = .ok (.invokevirtual 38, 3) := by decide +kernel
theorem dX0_capture_29 : decode cX0_capture 29 = .ok (.invokevirtual 67, 3) := by decide +kernel
theorem dX0_capture_32 : decode cX0_capture 32 = .ok (.putfield 25, 3) := by decide +kernel
theorem dX0_capture_35 : decode cX0_capture 35 = .ok (.goto 8, 3) := by decide +kernel
theorem dX0_capture_38 : decode cX0_capture 38 = .ok (.aload_n 0, 1) := by decide +kernel
theorem dX0_capture_39 : decode cX0_capture 39 = .ok (.iconst 0, 1) := by decide +kernel
theorem dX0_capture_40 : decode cX0_capture 40 = .ok (.putfield 28, 3) := by decide +kernel
theorem dX0_capture_43 : decode cX0_capture 43 = .ok (.return_, 1) := by decide +kernel
theorem dX0_shift_0 : decode cX0_shift 0 = .ok (.aload_n 0, 1) := by decide +kernel
theorem dX0_shift_1 : decode cX0_shift 1 = .ok (.getfield 18, 3) := by decide +kernel
theorem dX0_shift_4 : decode cX0_shift 4 = .ok (.iconst 1, 1) := by decide +kernel
theorem dX0_shift_5 : decode cX0_shift 5 = .ok (.if_icmp .ne 30, 3) := by decide +kernel
theorem dX0_shift_8 : decode cX0_shift 8 = .ok (.aload_n 0, 1) := by decide +kernel
theorem dX0_shift_9 : decode cX0_shift 9 = .ok (.aload_n 0, 1) := by decide +kernel
theorem dX0_shift_10 : decode cX0_shift 10 = .ok (.getfield 25, 3) := by decide +kernel
theorem dX0_shift_13 : decode cX0_shift 13 = .ok (.iconst 1, 1) := by decide +kernel
theorem dX0_shift_14 : decode cX0_shift 14 = .ok (.ishl, 1) := by decide +kernel
theorem dX0_shift_15 : decode cX0_shift 15 = .ok (.iload_n 1, 1) := by decide +kernel
theorem dX0_shift_16 : decode cX0_shift 16 = .ok (.ior, 1) := by decide +kernel
theorem dX0_shift_17 : decode cX0_shift 17 = .ok (.iconst 1, 1) := by decide +kernel
theorem dX0_shift_18 : decode cX0_shift 18 = .ok (.aload_n 0, 1) := by decide +kernel
theorem dX0_shift_19 : decode cX0_shift 19 = .ok (.getfield 21, 3) := by decide +kernel
theorem dX0_shift_22 : decode cX0_shift 22 = .ok (.getfield 47, 3) := by decide +kernel
theorem dX0_shift_25 : decode cX0_shift 25 = .ok (.ishl, 1) := by decide +kernel
theorem dX0_shift_26 : decode cX0_shift 26 = .ok (.iconst 1, 1) := by decide +kernel
theorem dX0_shift_27 : decode cX0_shift 27 = .ok (.isub, 1) := by decide +kernel
theorem dX0_shift_28 : decode cX0_shift 28 = .ok (.iand, 1) := by decide +kernel
theorem dX0_shift_29 : decode cX0_shift 29 = .ok (.putfield 25, 3) := by decide +kernel
theorem dX0_shift_32 : decode cX0_shift 32 = .ok (.goto 8, 3) := by decide +kernel
theorem dX0_shift_35 : decode cX0_shift 35 = .ok (.aload_n 0, 1) := by decide +kernel
theorem dX0_shift_36 : decode cX0_shift 36 = .ok (.iload_n 1, 1) := by decide +kernel
theorem dX0_shift_37 : decode cX0_shift 37 = .ok (.putfield 28, 3) := by decide +kernel
theorem dX0_shift_40 : decode cX0_shift 40 = .ok (.return_, 1) := by decide +kernel
