theorem dX2_init_0 : decode cX2_init 0 = .ok (.aload_n 0, 1) := by decide +kernel
theorem dX2_init_1 : decode cX2_init 1 = .ok (.invokespecial 3, 3) := by decide +kernel
theorem dX2_init_4 : decode cX2_init 4 = .ok (.aload_n 0, 1) := by decide +kernel
theorem dX2_init_5 : decode cX2_init 5 = .ok (.bipush 60, 2) := by decide +kernel
theorem dX2_init_7 : decode cX2_init 7 = .ok (.newarray .int, 2) := by decide +kernel
theorem dX2_init_9 : decode cX2_init 9 = .ok (.putfield 9, 3) := by decide +kernel
theorem dX2_init_12 : decode cX2_init 12 = .ok (.aload_n 0, 1) := by decide +kernel
theorem dX2_init_13 : decode cX2_init 13 = .ok (.bipush 60, 2) := by decide +kernel
theorem dX2_init_15 : decode cX2_init 15 = .ok (.newarray .int, 2) := by decide +kernel
theorem dX2_init_17 : decode cX2_init 17 = .ok (.putfield 15, 3) := by decide +kernel
theorem dX2_init_20 : decode cX2_init 20 = .ok (.aload_n 0, 1) := by decide +kernel
theorem dX2_init_21 : decode cX2_init 21 = .ok (.sipush 240, 3) := by decide +kernel
theorem dX2_init_24 : decode cX2_init 24 = .ok (.newarray .int, 2) := by decide +kernel
theorem dX2_init_26 : decode cX2_init 26 = .ok (.putfield 18, 3) := by decide +kernel
theorem dX2_init_29 : decode cX2_init 29 = .ok (.aload_n 0, 1) := by decide +kernel
theorem dX2_init_30 : decode cX2_init 30 = .ok (.bipush 8, 2) := by decide +kernel
theorem dX2_init_32 : decode cX2_init 32 = .ok (.newarray .int, 2) := by decide +kernel
theorem dX2_init_34 : decode cX2_init 34 = .ok (.putfield 21, 3) := by decide +kernel
theorem dX2_init_37 : decode cX2_init 37 = .ok (.aload_n 0, 1) := by decide +kernel
theorem dX2_init_38 : decode cX2_init 38 = .ok (.bipush 10, 2) := by decide +kernel
theorem dX2_init_40 : decode cX2_init 40 = .ok (.newarray .int, 2) := by decide +kernel
theorem dX2_init_42 : decode cX2_init 42 = .ok (.putfield 24, 3) := by decide +kernel
theorem dX2_init_45 : decode cX2_init 45 = .ok (.aload_n 0, 1) := by decide +kernel
theorem dX2_init_46 : decode cX2_init 46 = .ok (.bipush 60, 2) := by decide +kernel
theorem dX2_init_48 : decode cX2_init 48 = .ok (.newarray .long, 2) := by decide +kernel
theorem dX2_init_50 : decode cX2_init 50 = .ok (.putfield 27, 3) := by decide +kernel
theorem dX2_init_53 : decode cX2_init 53 = .ok (.return_, 1) := by decide +kernel
theorem dX2_clear_0 : decode cX2_clear 0 = .ok (.aload_n 0, 1) := by decide +kernel
theorem dX2_clear_1 : decode cX2_clear 1 = .ok (.iconst 0, 1) := by decide +kernel
theorem dX2_clear_2 : decode cX2_clear 2 = .ok (.putfield 31, 3) := by decide +kernel
theorem dX2_clear_5 : decode cX2_clear 5 = .ok (.aload_n 0, 1) := by decide +kernel
theorem dX2_clear_6 : decode cX2_clear 6 = .ok (.iconst 0, 1) := by decide +kernel
theorem dX2_clear_7 : decode cX2_clear 7 = .ok (.putfield 35, 3) := by decide +kernel
theorem dX2_clear_10 : decode cX2_clear 10 = .ok (.aload_n 0, 1) := by decide +kernel
theorem dX2_clear_11 : decode cX2_clear 11 = .ok (.iconst 0, 1) := by decide +kernel
theorem dX2_clear_12 : decode cX2_clear 12 = .ok (.putfield 38, 3) := by decide +kernel
theorem dX2_clear_15 : decode cX2_clear 15 = .ok (.aload_n 0, 1) := by decide +kernel
theorem dX2_clear_16 : decode cX2_clear 16 = .ok (.iconst 0, 1) := by decide +kernel
theorem dX2_clear_17 : decode cX2_clear 17 = .ok (.putfield 41, 3) := by decide +kernel
theorem dX2_clear_20 : decode cX2_clear 20 = .ok (.aload_n 0, 1) := by decide +kernel
theorem dX2_clear_21 : decode cX2_clear 21 = .ok (.getfield 24, 3) := by decide +kernel
theorem dX2_clear_24 : decode cX2_clear 24 = .ok (.iconst (-1), 1) := by decide +kernel
theorem dX2_clear_25 : decode cX2_clear 25 = .ok (.invokestatic 44, 3) := by decide +kernel
theorem dX2_clear_28 : decode cX2_clear 28 = .ok (.return_, 1) := by decide +kernel
theorem dX2_become_0 : decode cX2_become 0 = .ok (.aload_n 0, 1) := by decide +kernel
theorem dX2_become_1 : decode cX2_become 1 = .ok (.aload_n 1, 1) := by decide +kernel
theorem dX2_become_2 : decode cX2_become 2 = .ok (.getfield 31, 3) := by decide +kernel
theorem dX2_become_5 : decode cX2_become 5 = .ok (.putfield 31, 3) := by decide +kernel
theorem dX2_become_8 : decode cX2_become 8 = .ok (.aload_n 0, 1) := by decide +kernel
theorem dX2_become_9 : decode cX2_become 9 = .ok (.aload_n 1, 1) := by decide +kernel
theorem dX2_become_10 : decode cX2_become 10 = .ok (.getfield 35, 3) := by decide +kernel
theorem dX2_become_13 : decode cX2_become 13 = .ok (.putfield 35, 3) := by decide +kernel
theorem dX2_become_16 : decode cX2_become 16 = .ok (.aload_n 0, 1) := by decide +kernel
theorem dX2_become_17 : decode cX2_become 17 = .ok (.aload_n 1, 1) := by decide +kernel
theorem dX2_become_18 : decode cX2_become 18 = .ok (.getfield 38, 3) := by decide +kernel
theorem dX2_become_21 : decode cX2_become 21 = .ok (.putfield 38, 3) := by decide +kernel
theorem dX2_become_24 : decode cX2_become 24 = .ok (.aload_n 0, 1) := by decide +kernel
theorem dX2_become_25 : decode cX2_become 25 = .ok (.aload_n 1, 1) := by decide +kernel
theorem dX2_become_26 : decode cX2_become 26 = .ok (.getfield 41, 3) := by decide +kernel
theorem dX2_become_29 : decode cX2_become 29 = .ok (.putfield 41, 3) := by decide +kernel
theorem dX2_become_32 : decode cX2_become 32 = .ok (.aload_n 1, 1) := by decide +kernel
theorem dX2_become_33 : decode cX2_become 33 = .ok (.getfield 9, 3) := by decide +kernel
theorem dX2_become_36 : decode cX2_become 36 = .ok (.iconst 0, 1) := by decide +kernel
theorem dX2_become_37 : decode cX2_become 37 = .ok (.aload_n 0, 1) := by decide +kernel
theorem dX2_become_38 : decode cX2_become 38 = .ok (.getfield 9, 3) := by decide +kernel
theorem dX2_become_41 : decode cX2_become 41 = .ok (.iconst 0, 1) := by decide +kernel
theorem dX2_become_42 : decode cX2_become 42 = .ok (.bipush 60, 2) := by decide +kernel
theorem dX2_become_44 : decode cX2_become 44 = .ok (.invokestatic 50, 3) := by decide +kernel
theorem dX2_become_47 : decode cX2_become 47 = .ok (.aload_n 1, 1) := by decide +kernel
theorem dX2_become_48 : decode cX2_become 48 = .ok (.getfield 15, 3) := by decide +kernel
theorem dX2_become_51 : decode cX2_become 51 = .ok (.iconst 0, 1) := by decide +kernel
theorem dX2_become_52 : decode cX2_become 52 = .ok (.aload_n 0, 1) := by decide +kernel
theorem dX2_become_53 : decode cX2_become 53 = .ok (.getfield 15, 3) := by decide +kernel
theorem dX2_become_56 : decode cX2_become 56 = .ok (.iconst 0, 1) := by decide +kernel
theorem dX2_become_57 : decode cX2_become 57 = .ok (.bipush 60, 2) := by decide +kernel
theorem dX2_become_59 : decode cX2_become 59 = .ok (.invokestatic 50, 3) := by decide +kernel
theorem dX2_become_62 : decode cX2_become 62 = .ok (.aload_n 1, 1) := by decide +kernel
theorem dX2_become_63 : decode cX2_become 63 = .ok (.getfield 18, 3) := by decide +kernel
theorem dX2_become_66 : decode cX2_become 66 = .ok (.iconst 0, 1) := by decide +kernel
theorem dX2_become_67 : decode cX2_become 67 = .ok (.aload_n 0, 1) := by decide +kernel
theorem dX2_become_68 : decode cX2_become 68 = .ok (.getfield 18, 3) := by decide +kernel
theorem dX2_become_71 : decode cX2_become 71 = .ok (.iconst 0, 1) := by decide +kernel
theorem dX2_become_72 : decode cX2_become 72 = .ok (.sipush 240, 3) := by decide +kernel
theorem dX2_become_75 : decode cX2_become 75 = .ok (.invokestatic 50, 3) := by decide +kernel
theorem dX2_become_78 : decode cX2_become 78 = .ok (.aload_n 1, 1) := by decide +kernel
theorem dX2_become_79 : decode cX2_become 79 = .ok (.getfield 21, 3) := by decide +kernel
theorem dX2_become_82 : decode cX2_become 82 = .ok (.iconst 0, 1) := by decide +kernel
theorem dX2_become_83 : decode cX2_become 83 = .ok (.aload_n 0, 1) := by decide +kernel
theorem dX2_become_84 : decode cX2_become 84 = .ok (.getfield 21, 3) := by decide +kernel
theorem dX2_become_87 : decode cX2_become 87 = .ok (.iconst 0, 1) := by decide +kernel
theorem dX2_become_88 : decode cX2_become 88 = .ok (.bipush 8, 2) := by decide +kernel
theorem dX2_become_90 : decode cX2_become 90 = .ok (.invokestatic 50, 3) := by decide +kernel
theorem dX2_become_93 : decode cX2_become 93 = .ok (.aload_n 1, 1) := by decide +kernel
theorem dX2_become_94 : decode cX2_become 94 = .ok (.getfield 24, 3) := by decide +kernel
theorem dX2_become_97 : decode cX2_become 97 = .ok (.iconst 0, 1) := by decide +kernel
theorem dX2_become_98 : decode cX2_become 98 = .ok (.aload_n 0, 1) := by decide +kernel
theorem dX2_become_99 : decode cX2_become 99 = .ok (.getfield 24, 3) := by decide +kernel
theorem dX2_become_102 : decode cX2_become 102 = .ok (.iconst 0, 1) := by decide +kernel
theorem dX2_become_103 : decode cX2_become 103 = .ok (.bipush 10, 2) := by decide +kernel
theorem dX2_become_105 : decode cX2_become 105 = .ok (.invokestatic 50, 3) := by decide +kernel
theorem dX2_become_108 : decode cX2_become 108 = .ok (.return_, 1) := by decide +kernel
theorem dX2_sources_0 : decode cX2_sources 0 = .ok (.aload_n 0, 1) := by decide +kernel
theorem dX2_sources_1 : decode cX2_sources 1 = .ok (.getfield 31, 3) := by decide +kernel
theorem dX2_sources_4 : decode cX2_sources 4 = .ok (.aload_n 0, 1) := by decide +kernel
theorem dX2_sources_5 : decode cX2_sources 5 = .ok (.getfield 35, 3) := by decide +kernel
theorem dX2_sources_8 : decode cX2_sources 8 = .ok (.iadd, 1) := by decide +kernel
theorem dX2_sources_9 : decode cX2_sources 9 = .ok (.ireturn, 1) := by decide +kernel
theorem dX2_inputsOf_0 : decode cX2_inputsOf 0 = .ok (.iload_n 1, 1) := by decide +kernel
theorem dX2_inputsOf_1 : decode cX2_inputsOf 1 = .ok (.iconst 1, 1) := by decide +kernel
theorem dX2_inputsOf_2 : decode cX2_inputsOf 2 = .ok (.aload_n 0, 1) := by decide +kernel
theorem dX2_inputsOf_3 : decode cX2_inputsOf 3 = .ok (.getfield 31, 3) := by decide +kernel
theorem dX2_inputsOf_6 : decode cX2_inputsOf 6 = .ok (.ishl, 1) := by decide +kernel
theorem dX2_inputsOf_7 : decode cX2_inputsOf 7 = .ok (.iconst 1, 1) := by decide +kernel
theorem dX2_inputsOf_8 : decode cX2_inputsOf 8 = .ok (.isub, 1) := by decide +kernel
theorem dX2_inputsOf_9 : decode cX2_inputsOf 9 = .ok (.iand, 1) := by decide +kernel
theorem dX2_inputsOf_10 : decode cX2_inputsOf 10 = .ok (.ireturn, 1) := by decide +kernel
theorem dX2_outputsOf_0 : decode cX2_outputsOf 0 = .ok (.iload_n 1, 1) := by decide +kernel
theorem dX2_outputsOf_1 : decode cX2_outputsOf 1 = .ok (.iconst 1, 1) := by decide +kernel
theorem dX2_outputsOf_2 : decode cX2_outputsOf 2 = .ok (.aload_n 0, 1) := by decide +kernel
theorem dX2_outputsOf_3 : decode cX2_outputsOf 3 = .ok (.getfield 41, 3) := by decide +kernel
theorem dX2_outputsOf_6 : decode cX2_outputsOf 6 = .ok (.ishl, 1) := by decide +kernel
theorem dX2_outputsOf_7 : decode cX2_outputsOf 7 = .ok (.iconst 1, 1) := by decide +kernel
theorem dX2_outputsOf_8 : decode cX2_outputsOf 8 = .ok (.isub, 1) := by decide +kernel
theorem dX2_outputsOf_9 : decode cX2_outputsOf 9 = .ok (.iand, 1) := by decide +kernel
theorem dX2_outputsOf_10 : decode cX2_outputsOf 10 = .ok (.ireturn, 1) := by decide +kernel
theorem dX2_nextsOf_0 : decode cX2_nextsOf 0 = .ok (.iload_n 1, 1) := by decide +kernel
theorem dX2_nextsOf_1 : decode cX2_nextsOf 1 = .ok (.aload_n 0, 1) := by decide +kernel
theorem dX2_nextsOf_2 : decode cX2_nextsOf 2 = .ok (.getfield 41, 3) := by decide +kernel
theorem dX2_nextsOf_5 : decode cX2_nextsOf 5 = .ok (.ishr, 1) := by decide +kernel
theorem dX2_nextsOf_6 : decode cX2_nextsOf 6 = .ok (.ireturn, 1) := by decide +kernel
theorem dX2_isFlop_0 : decode cX2_isFlop 0 = .ok (.iload_n 1, 1) := by decide +kernel
theorem dX2_isFlop_1 : decode cX2_isFlop 1 = .ok (.aload_n 0, 1) := by decide +kernel
theorem dX2_isFlop_2 : decode cX2_isFlop 2 = .ok (.getfield 31, 3) := by decide +kernel
theorem dX2_isFlop_5 : decode cX2_isFlop 5 = .ok (.if_icmp .lt 15, 3) := by decide +kernel
theorem dX2_isFlop_8 : decode cX2_isFlop 8 = .ok (.iload_n 1, 1) := by decide +kernel
theorem dX2_isFlop_9 : decode cX2_isFlop 9 = .ok (.aload_n 0, 1) := by decide +kernel
theorem dX2_isFlop_10 : decode cX2_isFlop 10 = .ok (.invokevirtual 56, 3) := by decide +kernel
theorem dX2_isFlop_13 : decode cX2_isFlop 13 = .ok (.if_icmp .ge 7, 3) := by decide +kernel
theorem dX2_isFlop_16 : decode cX2_isFlop 16 = .ok (.iconst 1, 1) := by decide +kernel
theorem dX2_isFlop_17 : decode cX2_isFlop 17 = .ok (.goto 4, 3) := by decide +kernel
theorem dX2_isFlop_20 : decode cX2_isFlop 20 = .ok (.iconst 0, 1) := by decide +kernel
theorem dX2_isFlop_21 : decode cX2_isFlop 21 = .ok (.ireturn, 1) := by decide +kernel
theorem dX2_respond_0 : decode cX2_respond 0 = .ok (.iconst 0, 1) := by decide +kernel
theorem dX2_respond_1 : decode cX2_respond 1 = .ok (.istore_n 3, 1) := by decide +kernel
theorem dX2_respond_2 : decode cX2_respond 2 = .ok (.iload_n 3, 1) := by decide +kernel
theorem dX2_respond_3 : decode cX2_respond 3 = .ok (.aload_n 0, 1) := by decide +kernel
theorem dX2_respond_4 : decode cX2_respond 4 = .ok (.invokevirtual 56, 3) := by decide +kernel
theorem dX2_respond_7 : decode cX2_respond 7 = .ok (.if_icmp .ge 22, 3) := by decide +kernel
theorem dX2_respond_10 : decode cX2_respond 10 = .ok (.aload_n 0, 1) := by decide +kernel
theorem dX2_respond_11 : decode cX2_respond 11 = .ok (.getfield 27, 3) := by decide +kernel
theorem dX2_respond_14 : decode cX2_respond 14 = .ok (.iload_n 3, 1) := by decide +kernel
theorem dX2_respond_15 : decode cX2_respond 15 = .ok (.iload_n 1, 1) := by decide +kernel
theorem dX2_respond_16 : decode cX2_respond 16 = .ok (.iload_n 3, 1) := by decide +kernel
theorem dX2_respond_17 : decode cX2_respond 17 = .ok (.ishr, 1) := by decide +kernel
theorem dX2_respond_18 : decode cX2_respond 18 = .ok (.iconst 1, 1) := by decide +kernel
theorem dX2_respond_19 : decode cX2_respond 19 = .ok (.iand, 1) := by decide +kernel
theorem dX2_respond_20 : decode cX2_respond 20 = .ok (.i2l, 1) := by decide +kernel
theorem dX2_respond_21 : decode cX2_respond 21 = .ok (.lneg, 1) := by decide +kernel
theorem dX2_respond_22 : decode cX2_respond 22 = .ok (.lastore, 1) := by decide +kernel
theorem dX2_respond_23 : decode cX2_respond 23 = .ok (.iinc 3 1, 3) := by decide +kernel
theorem dX2_respond_26 : decode cX2_respond 26 = .ok (.goto (-24), 3) := by decide +kernel
theorem dX2_respond_29 : decode cX2_respond 29 = .ok (.aload_n 0, 1) := by decide +kernel
theorem dX2_respond_30 : decode cX2_respond 30 = .ok (.iconst 0, 1) := by decide +kernel
theorem dX2_respond_31 : decode cX2_respond 31 = .ok (.iload_n 2, 1) := by decide +kernel
theorem dX2_respond_32 : decode cX2_respond 32 = .ok (.invokevirtual 60, 3) := by decide +kernel
theorem dX2_respond_35 : decode cX2_respond 35 = .ok (.iconst 0, 1) := by decide +kernel
theorem dX2_respond_36 : decode cX2_respond 36 = .ok (.istore_n 3, 1) := by decide +kernel
theorem dX2_respond_37 : decode cX2_respond 37 = .ok (.iconst 0, 1) := by decide +kernel
theorem dX2_respond_38 : decode cX2_respond 38 = .ok (.istore 4, 2) := by decide +kernel
theorem dX2_respond_40 : decode cX2_respond 40 = .ok (.iload 4, 2) := by decide +kernel
theorem dX2_respond_42 : decode cX2_respond 42 = .ok (.aload_n 0, 1) := by decide +kernel
theorem dX2_respond_43 : decode cX2_respond 43 = .ok (.getfield 41, 3) := by decide +kernel
theorem dX2_respond_46 : decode cX2_respond 46 = .ok (.if_icmp .ge 30, 3) := by decide +kernel
theorem dX2_respond_49 : decode cX2_respond 49 = .ok (.iload_n 3, 1) := by decide +kernel
theorem dX2_respond_50 : decode cX2_respond 50 = .ok (.aload_n 0, 1) := by decide +kernel
theorem dX2_respond_51 : decode cX2_respond 51 = .ok (.getfield 27, 3) := by decide +kernel
theorem dX2_respond_54 : decode cX2_respond 54 = .ok (.aload_n 0, 1) := by decide +kernel
theorem dX2_respond_55 : decode cX2_respond 55 = .ok (.getfield 21, 3) := by decide +kernel
theorem dX2_respond_58 : decode cX2_respond 58 = .ok (.iload 4, 2) := by decide +kernel
theorem dX2_respond_60 : decode cX2_respond 60 = .ok (.iaload, 1) := by decide +kernel
theorem dX2_respond_61 : decode cX2_respond 61 = .ok (.laload, 1) := by decide +kernel
theorem dX2_respond_62 : decode cX2_respond 62 = .ok (.lconst 1, 1) := by decide +kernel
theorem dX2_respond_63 : decode cX2_respond 63 = .ok (.land, 1) := by decide +kernel
theorem dX2_respond_64 : decode cX2_respond 64 = .ok (.l2i, 1) := by decide +kernel
theorem dX2_respond_65 : decode cX2_respond 65 = .ok (.iload 4, 2) := by decide +kernel
theorem dX2_respond_67 : decode cX2_respond 67 = .ok (.ishl, 1) := by decide +kernel
theorem dX2_respond_68 : decode cX2_respond 68 = .ok (.ior, 1) := by decide +kernel
theorem dX2_respond_69 : decode cX2_respond 69 = .ok (.istore_n 3, 1) := by decide +kernel
theorem dX2_respond_70 : decode cX2_respond 70 = .ok (.iinc 4 1, 3) := by decide +kernel
theorem dX2_respond_73 : decode cX2_respond 73 = .ok (.goto (-33), 3) := by decide +kernel
theorem dX2_respond_76 : decode cX2_respond 76 = .ok (.iconst 0, 1) := by decide +kernel
theorem dX2_respond_77 : decode cX2_respond 77 = .ok (.istore 4, 2) := by decide +kernel
theorem dX2_respond_79 : decode cX2_respond 79 = .ok (.iload 4, 2) := by decide +kernel
theorem dX2_respond_81 : decode cX2_respond 81 = .ok (.aload_n 0, 1) := by decide +kernel
theorem dX2_respond_82 : decode cX2_respond 82 = .ok (.getfield 35, 3) := by decide +kernel
theorem dX2_respond_85 : decode cX2_respond 85 = .ok (.if_icmp .ge 27, 3) := by decide +kernel
theorem dX2_respond_88 : decode cX2_respond 88 = .ok (.iload_n 3, 1) := by decide +kernel
theorem dX2_respond_89 : decode cX2_respond 89 = .ok (.aload_n 0, 1) := by decide +kernel
theorem dX2_respond_90 : decode cX2_respond 90 = .ok (.iload 4, 2) := by decide +kernel
theorem dX2_respond_92 : decode cX2_respond 92 = .ok (.iload_n 1, 1) := by decide +kernel
theorem dX2_respond_93 : decode cX2_respond 93 = .ok (.invokevirtual 64, 3) := by decide +kernel
theorem dX2_respond_96 : decode cX2_respond 96 = .ok (.aload_n 0, 1) := by decide +kernel
theorem dX2_respond_97 : decode cX2_respond 97 = .ok (.getfield 41, 3) := by decide +kernel
theorem dX2_respond_100 : decode cX2_respond 100 = .ok (.iload 4, 2) := by decide +kernel
theorem dX2_respond_102 : decode cX2_respond 102 = .ok (.iadd, 1) := by decide +kernel
theorem dX2_respond_103 : decode cX2_respond 103 = .ok (.ishl, 1) := by decide +kernel
theorem dX2_respond_104 : decode cX2_respond 104 = .ok (.ior, 1) := by decide +kernel
theorem dX2_respond_105 : decode cX2_respond 105 = .ok (.istore_n 3, 1) := by decide +kernel
theorem dX2_respond_106 : decode cX2_respond 106 = .ok (.iinc 4 1, 3) := by decide +kernel
theorem dX2_respond_109 : decode cX2_respond 109 = .ok (.goto (-30), 3) := by decide +kernel
theorem dX2_respond_112 : decode cX2_respond 112 = .ok (.iload_n 3, 1) := by decide +kernel
theorem dX2_respond_113 : decode cX2_respond 113 = .ok (.ireturn, 1) := by decide +kernel
theorem dX2_nextBit_0 : decode cX2_nextBit 0 = .ok (.aload_n 0, 1) := by decide +kernel
theorem dX2_nextBit_1 : decode cX2_nextBit 1 = .ok (.getfield 24, 3) := by decide +kernel
theorem dX2_nextBit_4 : decode cX2_nextBit 4 = .ok (.iload_n 1, 1) := by decide +kernel
theorem dX2_nextBit_5 : decode cX2_nextBit 5 = .ok (.iaload, 1) := by decide +kernel
theorem dX2_nextBit_6 : decode cX2_nextBit 6 = .ok (.iconst (-1), 1) := by decide +kernel
theorem dX2_nextBit_7 : decode cX2_nextBit 7 = .ok (.if_icmp .ne 14, 3) := by decide +kernel
theorem dX2_nextBit_10 : decode cX2_nextBit 10 = .ok (.iload_n 2, 1) := by decide +kernel
theorem dX2_nextBit_11 : decode cX2_nextBit 11 = .ok (.aload_n 0, 1) := by decide +kernel
theorem dX2_nextBit_12 : decode cX2_nextBit 12 = .ok (.getfield 31, 3) := by decide +kernel
theorem dX2_nextBit_15 : decode cX2_nextBit 15 = .ok (.iload_n 1, 1) := by decide +kernel
theorem dX2_nextBit_16 : decode cX2_nextBit 16 = .ok (.iadd, 1) := by decide +kernel
theorem dX2_nextBit_17 : decode cX2_nextBit 17 = .ok (.ishr, 1) := by decide +kernel
theorem dX2_nextBit_18 : decode cX2_nextBit 18 = .ok (.iconst 1, 1) := by decide +kernel
theorem dX2_nextBit_19 : decode cX2_nextBit 19 = .ok (.iand, 1) := by decide +kernel
theorem dX2_nextBit_20 : decode cX2_nextBit 20 = .ok (.ireturn, 1) := by decide +kernel
theorem dX2_nextBit_21 : decode cX2_nextBit 21 = .ok (.aload_n 0, 1) := by decide +kernel
theorem dX2_nextBit_22 : decode cX2_nextBit 22 = .ok (.getfield 27, 3) := by decide +kernel
theorem dX2_nextBit_25 : decode cX2_nextBit 25 = .ok (.aload_n 0, 1) := by decide +kernel
theorem dX2_nextBit_26 : decode cX2_nextBit 26 = .ok (.getfield 24, 3) := by decide +kernel
theorem dX2_nextBit_29 : decode cX2_nextBit 29 = .ok (.iload_n 1, 1) := by decide +kernel
theorem dX2_nextBit_30 : decode cX2_nextBit 30 = .ok (.iaload, 1) := by decide +kernel
theorem dX2_nextBit_31 : decode cX2_nextBit 31 = .ok (.laload, 1) := by decide +kernel
theorem dX2_nextBit_32 : decode cX2_nextBit 32 = .ok (.lconst 1, 1) := by decide +kernel
theorem dX2_nextBit_33 : decode cX2_nextBit 33 = .ok (.land, 1) := by decide +kernel
theorem dX2_nextBit_34 : decode cX2_nextBit 34 = .ok (.l2i, 1) := by decide +kernel
theorem dX2_nextBit_35 : decode cX2_nextBit 35 = .ok (.ireturn, 1) := by decide +kernel
theorem dX2_spread_0 : decode cX2_spread 0 = .ok (.iconst 0, 1) := by decide +kernel
theorem dX2_spread_1 : decode cX2_spread 1 = .ok (.istore_n 2, 1) := by decide +kernel
theorem dX2_spread_2 : decode cX2_spread 2 = .ok (.iload_n 2, 1) := by decide +kernel
theorem dX2_spread_3 : decode cX2_spread 3 = .ok (.aload_n 0, 1) := by decide +kernel
theorem dX2_spread_4 : decode cX2_spread 4 = .ok (.invokevirtual 56, 3) := by decide +kernel
theorem dX2_spread_7 : decode cX2_spread 7 = .ok (.if_icmp .ge 43, 3) := by decide +kernel
theorem dX2_spread_10 : decode cX2_spread 10 = .ok (.aload_n 0, 1) := by decide +kernel
theorem dX2_spread_11 : decode cX2_spread 11 = .ok (.getfield 27, 3) := by decide +kernel
theorem dX2_spread_14 : decode cX2_spread 14 = .ok (.iload_n 2, 1) := by decide +kernel
theorem dX2_spread_15 : decode cX2_spread 15 = .ok (.iload_n 2, 1) := by decide +kernel
theorem dX2_spread_16 : decode cX2_spread 16 = .ok (.getstatic 68, 3) := by decide +kernel
theorem dX2_spread_19 : decode cX2_spread 19 = .ok (.arraylength, 1) := by decide +kernel
theorem dX2_spread_20 : decode cX2_spread 20 = .ok (.if_icmp .ge 11, 3) := by decide +kernel
theorem dX2_spread_23 : decode cX2_spread 23 = .ok (.getstatic 68, 3) := by decide +kernel
theorem dX2_spread_26 : decode cX2_spread 26 = .ok (.iload_n 2, 1) := by decide +kernel
theorem dX2_spread_27 : decode cX2_spread 27 = .ok (.laload, 1) := by decide +kernel
theorem dX2_spread_28 : decode cX2_spread 28 = .ok (.goto 15, 3) := by decide +kernel
theorem dX2_spread_31 : decode cX2_spread 31 = .ok (.iload_n 1, 1) := by decide +kernel
theorem dX2_spread_32 : decode cX2_spread 32 = .ok (.iload_n 2, 1) := by decide +kernel
theorem dX2_spread_33 : decode cX2_spread 33 = .ok (.getstatic 68, 3) := by decide +kernel
theorem dX2_spread_36 : decode cX2_spread 36 = .ok (.arraylength, 1) := by decide +kernel
theorem dX2_spread_37 : decode cX2_spread 37 = .ok (.isub, 1) := by decide +kernel
theorem dX2_spread_38 : decode cX2_spread 38 = .ok (.ishr, 1) := by decide +kernel
theorem dX2_spread_39 : decode cX2_spread 39 = .ok (.iconst 1, 1) := by decide +kernel
theorem dX2_spread_40 : decode cX2_spread 40 = .ok (.iand, 1) := by decide +kernel
theorem dX2_spread_41 : decode cX2_spread 41 = .ok (.i2l, 1) := by decide +kernel
theorem dX2_spread_42 : decode cX2_spread 42 = .ok (.lneg, 1) := by decide +kernel
theorem dX2_spread_43 : decode cX2_spread 43 = .ok (.lastore, 1) := by decide +kernel
theorem dX2_spread_44 : decode cX2_spread 44 = .ok (.iinc 2 1, 3) := by decide +kernel
theorem dX2_spread_47 : decode cX2_spread 47 = .ok (.goto (-45), 3) := by decide +kernel
theorem dX2_spread_50 : decode cX2_spread 50 = .ok (.return_, 1) := by decide +kernel
theorem dX2_settle_0 : decode cX2_settle 0 = .ok (.iload_n 1, 1) := by decide +kernel
theorem dX2_settle_1 : decode cX2_settle 1 = .ok (.istore_n 3, 1) := by decide +kernel
theorem dX2_settle_2 : decode cX2_settle 2 = .ok (.iload_n 3, 1) := by decide +kernel
theorem dX2_settle_3 : decode cX2_settle 3 = .ok (.aload_n 0, 1) := by decide +kernel
theorem dX2_settle_4 : decode cX2_settle 4 = .ok (.getfield 38, 3) := by decide +kernel
theorem dX2_settle_7 : decode cX2_settle 7 = .ok (.if_icmp .ge 51, 3) := by decide +kernel
theorem dX2_settle_10 : decode cX2_settle 10 = .ok (.iload_n 3, 1) := by decide +kernel
theorem dX2_settle_11 : decode cX2_settle 11 = .ok (.aload_n 0, 1) := by decide +kernel
theorem dX2_settle_12 : decode cX2_settle 12 = .ok (.invokevirtual 56, 3) := by decide +kernel
theorem dX2_settle_15 : decode cX2_settle 15 = .ok (.if_icmp .lt 14, 3) := by decide +kernel
theorem dX2_settle_18 : decode cX2_settle 18 = .ok (.aload_n 0, 1) := by decide +kernel
theorem dX2_settle_19 : decode cX2_settle 19 = .ok (.getfield 27, 3) := by decide +kernel
theorem dX2_settle_22 : decode cX2_settle 22 = .ok (.iload_n 3, 1) := by decide +kernel
theorem dX2_settle_23 : decode cX2_settle 23 = .ok (.aload_n 0, 1) := by decide +kernel
theorem dX2_settle_24 : decode cX2_settle 24 = .ok (.iload_n 3, 1) := by decide +kernel
theorem dX2_settle_25 : decode cX2_settle 25 = .ok (.invokevirtual 71, 3) := by decide +kernel
theorem dX2_settle_28 : decode cX2_settle 28 = .ok (.lastore, 1) := by decide +kernel
theorem dX2_settle_29 : decode cX2_settle 29 = .ok (.iload_n 2, 1) := by decide +kernel
theorem dX2_settle_30 : decode cX2_settle 30 = .ok (.iconst (-1), 1) := by decide +kernel
theorem dX2_settle_31 : decode cX2_settle 31 = .ok (.if_icmp .eq 21, 3) := by decide +kernel
theorem dX2_settle_34 : decode cX2_settle 34 = .ok (.iload_n 3, 1) := by decide +kernel
theorem dX2_settle_35 : decode cX2_settle 35 = .ok (.iload_n 2, 1) := by decide +kernel
theorem dX2_settle_36 : decode cX2_settle 36 = .ok (.iconst 1, 1) := by decide +kernel
theorem dX2_settle_37 : decode cX2_settle 37 = .ok (.ishr, 1) := by decide +kernel
theorem dX2_settle_38 : decode cX2_settle 38 = .ok (.if_icmp .ne 14, 3) := by decide +kernel
theorem dX2_settle_41 : decode cX2_settle 41 = .ok (.aload_n 0, 1) := by decide +kernel
theorem dX2_settle_42 : decode cX2_settle 42 = .ok (.getfield 27, 3) := by decide +kernel
theorem dX2_settle_45 : decode cX2_settle 45 = .ok (.iload_n 3, 1) := by decide +kernel
theorem dX2_settle_46 : decode cX2_settle 46 = .ok (.iload_n 2, 1) := by decide +kernel
theorem dX2_settle_47 : decode cX2_settle 47 = .ok (.iconst 1, 1) := by decide +kernel
theorem dX2_settle_48 : decode cX2_settle 48 = .ok (.iand, 1) := by decide +kernel
theorem dX2_settle_49 : decode cX2_settle 49 = .ok (.i2l, 1) := by decide +kernel
theorem dX2_settle_50 : decode cX2_settle 50 = .ok (.lneg, 1) := by decide +kernel
theorem dX2_settle_51 : decode cX2_settle 51 = .ok (.lastore, 1) := by decide +kernel
theorem dX2_settle_52 : decode cX2_settle 52 = .ok (.iinc 3 1, 3) := by decide +kernel
theorem dX2_settle_55 : decode cX2_settle 55 = .ok (.goto (-53), 3) := by decide +kernel
theorem dX2_settle_58 : decode cX2_settle 58 = .ok (.return_, 1) := by decide +kernel
theorem dX2_gate_0 : decode cX2_gate 0 = .ok (.aload_n 0, 1) := by decide +kernel
theorem dX2_gate_1 : decode cX2_gate 1 = .ok (.getfield 9, 3) := by decide +kernel
theorem dX2_gate_4 : decode cX2_gate 4 = .ok (.iload_n 1, 1) := by decide +kernel
theorem dX2_gate_5 : decode cX2_gate 5 = .ok (.iaload, 1) := by decide +kernel
theorem dX2_gate_6 : decode cX2_gate 6 = .ok (.istore_n 2, 1) := by decide +kernel
theorem dX2_gate_7 : decode cX2_gate 7 = .ok (.iload_n 1, 1) := by decide +kernel
theorem dX2_gate_8 : decode cX2_gate 8 = .ok (.iconst 4, 1) := by decide +kernel
theorem dX2_gate_9 : decode cX2_gate 9 = .ok (.imul, 1) := by decide +kernel
theorem dX2_gate_10 : decode cX2_gate 10 = .ok (.istore_n 3, 1) := by decide +kernel
theorem dX2_gate_11 : decode cX2_gate 11 = .ok (.aload_n 0, 1) := by decide +kernel
theorem dX2_gate_12 : decode cX2_gate 12 = .ok (.getfield 27, 3) := by decide +kernel
theorem dX2_gate_15 : decode cX2_gate 15 = .ok (.aload_n 0, 1) := by decide +kernel
theorem dX2_gate_16 : decode cX2_gate 16 = .ok (.getfield 18, 3) := by decide +kernel
theorem dX2_gate_19 : decode cX2_gate 19 = .ok (.iload_n 3, 1) := by decide +kernel
theorem dX2_gate_20 : decode cX2_gate 20 = .ok (.iaload, 1) := by decide +kernel
theorem dX2_gate_21 : decode cX2_gate 21 = .ok (.laload, 1) := by decide +kernel
theorem dX2_gate_22 : decode cX2_gate 22 = .ok (.lstore 4, 2) := by decide +kernel
theorem dX2_gate_24 : decode cX2_gate 24 = .ok (.iload_n 2, 1) := by decide +kernel
theorem dX2_gate_25 : decode cX2_gate 25 = .ok (.bipush 7, 2) := by decide +kernel
theorem dX2_gate_27 : decode cX2_gate 27 = .ok (.if_icmp .ne 41, 3) := by decide +kernel
theorem dX2_gate_30 : decode cX2_gate 30 = .ok (.lload 4, 2) := by decide +kernel
theorem dX2_gate_32 : decode cX2_gate 32 = .ok (.ldc2_w 75, 3) := by decide +kernel
theorem dX2_gate_35 : decode cX2_gate 35 = .ok (.lxor, 1) := by decide +kernel
theorem dX2_gate_36 : decode cX2_gate 36 = .ok (.aload_n 0, 1) := by decide +kernel
theorem dX2_gate_37 : decode cX2_gate 37 = .ok (.getfield 27, 3) := by decide +kernel
theorem dX2_gate_40 : decode cX2_gate 40 = .ok (.aload_n 0, 1) := by decide +kernel
theorem dX2_gate_41 : decode cX2_gate 41 = .ok (.getfield 18, 3) := by decide +kernel
theorem dX2_gate_44 : decode cX2_gate 44 = .ok (.iload_n 3, 1) := by decide +kernel
theorem dX2_gate_45 : decode cX2_gate 45 = .ok (.iconst 1, 1) := by decide +kernel
theorem dX2_gate_46 : decode cX2_gate 46 = .ok (.iadd, 1) := by decide +kernel
theorem dX2_gate_47 : decode cX2_gate 47 = .ok (.iaload, 1) := by decide +kernel
theorem dX2_gate_48 : decode cX2_gate 48 = .ok (.laload, 1) := by decide +kernel
theorem dX2_gate_49 : decode cX2_gate 49 = .ok (.land, 1) := by decide +kernel
theorem dX2_gate_50 : decode cX2_gate 50 = .ok (.lload 4, 2) := by decide +kernel
theorem dX2_gate_52 : decode cX2_gate 52 = .ok (.aload_n 0, 1) := by decide +kernel
theorem dX2_gate_53 : decode cX2_gate 53 = .ok (.getfield 27, 3) := by decide +kernel
theorem dX2_gate_56 : decode cX2_gate 56 = .ok (.aload_n 0, 1) := by decide +kernel
theorem dX2_gate_57 : decode cX2_gate 57 = .ok (.getfield 18, 3) := by decide +kernel
theorem dX2_gate_60 : decode cX2_gate 60 = .ok (.iload_n 3, 1) := by decide +kernel
theorem dX2_gate_61 : decode cX2_gate 61 = .ok (.iconst 2, 1) := by decide +kernel
theorem dX2_gate_62 : decode cX2_gate 62 = .ok (.iadd, 1) := by decide +kernel
theorem dX2_gate_63 : decode cX2_gate 63 = .ok (.iaload, 1) := by decide +kernel
theorem dX2_gate_64 : decode cX2_gate 64 = .ok (.laload, 1) := by decide +kernel
theorem dX2_gate_65 : decode cX2_gate 65 = .ok (.land, 1) := by decide +kernel
theorem dX2_gate_66 : decode cX2_gate 66 = .ok (.lor, 1) := by decide +kernel
theorem dX2_gate_67 : decode cX2_gate 67 = .ok (.lreturn, 1) := by decide +kernel
theorem dX2_gate_68 : decode cX2_gate 68 = .ok (.iconst 1, 1) := by decide +kernel
theorem dX2_gate_69 : decode cX2_gate 69 = .ok (.istore 6, 2) := by decide +kernel
theorem dX2_gate_71 : decode cX2_gate 71 = .ok (.iload 6, 2) := by decide +kernel
theorem dX2_gate_73 : decode cX2_gate 73 = .ok (.aload_n 0, 1) := by decide +kernel
theorem dX2_gate_74 : decode cX2_gate 74 = .ok (.getfield 15, 3) := by decide +kernel
theorem dX2_gate_77 : decode cX2_gate 77 = .ok (.iload_n 1, 1) := by decide +kernel
theorem dX2_gate_78 : decode cX2_gate 78 = .ok (.iaload, 1) := by decide +kernel
theorem dX2_gate_79 : decode cX2_gate 79 = .ok (.if_icmp .ge 82, 3) := by decide +kernel
theorem dX2_gate_82 : decode cX2_gate 82 = .ok (.aload_n 0, 1) := by decide +kernel
theorem dX2_gate_83 : decode cX2_gate 83 = .ok (.getfield 27, 3) := by decide +kernel
theorem dX2_gate_86 : decode cX2_gate 86 = .ok (.aload_n 0, 1) := by decide +kernel
theorem dX2_gate_87 : decode cX2_gate 87 = .ok (.getfield 18, 3) := by decide +kernel
theorem dX2_gate_90 : decode cX2_gate 90 = .ok (.iload_n 3, 1) := by decide +kernel
theorem dX2_gate_91 : decode cX2_gate 91 = .ok (.iload 6, 2) := by decide +kernel
theorem dX2_gate_93 : decode cX2_gate 93 = .ok (.iadd, 1) := by decide +kernel
theorem dX2_gate_94 : decode cX2_gate 94 = .ok (.iaload, 1) := by decide +kernel
theorem dX2_gate_95 : decode cX2_gate 95 = .ok (.laload, 1) := by decide +kernel
theorem dX2_gate_96 : decode cX2_gate 96 = .ok (.lstore 7, 2) := by decide +kernel
theorem dX2_gate_98 : decode cX2_gate 98 = .ok (.iload_n 2, 1) := by decide +kernel
theorem dX2_gate_99 : decode cX2_gate 99 = .ok (.tableswitch 49 0 3 #[29, 49, 39, 29], 29) := by decide +kernel
theorem dX2_gate_128 : decode cX2_gate 128 = .ok (.lload 4, 2) := by decide +kernel
theorem dX2_gate_130 : decode cX2_gate 130 = .ok (.lload 7, 2) := by decide +kernel
theorem dX2_gate_132 : decode cX2_gate 132 = .ok (.land, 1) := by decide +kernel
theorem dX2_gate_133 : decode cX2_gate 133 = .ok (.lstore 4, 2) := by decide +kernel
theorem dX2_gate_135 : decode cX2_gate 135 = .ok (.goto 20, 3) := by decide +kernel
theorem dX2_gate_138 : decode cX2_gate 138 = .ok (.lload 4, 2) := by decide +kernel
theorem dX2_gate_140 : decode cX2_gate 140 = .ok (.lload 7, 2) := by decide +kernel
theorem dX2_gate_142 : decode cX2_gate 142 = .ok (.lxor, 1) := by decide +kernel
theorem dX2_gate_143 : decode cX2_gate 143 = .ok (.lstore 4, 2) := by decide +kernel
theorem dX2_gate_145 : decode cX2_gate 145 = .ok (.goto 10, 3) := by decide +kernel
theorem dX2_gate_148 : decode cX2_gate 148 = .ok (.lload 4, 2) := by decide +kernel
theorem dX2_gate_150 : decode cX2_gate 150 = .ok (.lload 7, 2) := by decide +kernel
theorem dX2_gate_152 : decode cX2_gate 152 = .ok (.lor, 1) := by decide +kernel
theorem dX2_gate_153 : decode cX2_gate 153 = .ok (.lstore 4, 2) := by decide +kernel
theorem dX2_gate_155 : decode cX2_gate 155 = .ok (.iinc 6 1, 3) := by decide +kernel
theorem dX2_gate_158 : decode cX2_gate 158 = .ok (.goto (-87), 3) := by decide +kernel
theorem dX2_gate_161 : decode cX2_gate 161 = .ok (.iload_n 2, 1) := by decide +kernel
theorem dX2_gate_162 : decode cX2_gate 162 = .ok (.iconst 5, 1) := by decide +kernel
theorem dX2_gate_163 : decode cX2_gate 163 = .ok (.if_icmp .eq 13, 3) := by decide +kernel
theorem dX2_gate_166 : decode cX2_gate 166 = .ok (.iload_n 2, 1) := by decide +kernel
theorem dX2_gate_167 : decode cX2_gate 167 = .ok (.iconst 3, 1) := by decide +kernel
theorem dX2_gate_168 : decode cX2_gate 168 = .ok (.if_icmp .eq 8, 3) := by decide +kernel
theorem dX2_gate_171 : decode cX2_gate 171 = .ok (.iload_n 2, 1) := by decide +kernel
theorem dX2_gate_172 : decode cX2_gate 172 = .ok (.iconst 4, 1) := by decide +kernel
theorem dX2_gate_173 : decode cX2_gate 173 = .ok (.if_icmp .ne 12, 3) := by decide +kernel
theorem dX2_gate_176 : decode cX2_gate 176 = .ok (.lload 4, 2) := by decide +kernel
theorem dX2_gate_178 : decode cX2_gate 178 = .ok (.ldc2_w 75, 3) := by decide +kernel
theorem dX2_gate_181 : decode cX2_gate 181 = .ok (.lxor, 1) := by decide +kernel
theorem dX2_gate_182 : decode cX2_gate 182 = .ok (.goto 5, 3) := by decide +kernel
theorem dX2_gate_185 : decode cX2_gate 185 = .ok (.lload 4, 2) := by decide +kernel
theorem dX2_gate_187 : decode cX2_gate 187 = .ok (.lreturn, 1) := by decide +kernel
theorem dX2_differing_0 : decode cX2_differing 0 = .ok (.lconst 0, 1) := by decide +kernel
theorem dX2_differing_1 : decode cX2_differing 1 = .ok (.lstore_n 2, 1) := by decide +kernel
theorem dX2_differing_2 : decode cX2_differing 2 = .ok (.iconst 0, 1) := by decide +kernel
theorem dX2_differing_3 : decode cX2_differing 3 = .ok (.istore 4, 2) := by decide +kernel
theorem dX2_differing_5 : decode cX2_differing 5 = .ok (.iload 4, 2) := by decide +kernel
theorem dX2_differing_7 : decode cX2_differing 7 = .ok (.aload_n 0, 1) := by decide +kernel
theorem dX2_differing_8 : decode cX2_differing 8 = .ok (.getfield 41, 3) := by decide +kernel
theorem dX2_differing_11 : decode cX2_differing 11 = .ok (.if_icmp .ge 34, 3) := by decide +kernel
theorem dX2_differing_14 : decode cX2_differing 14 = .ok (.lload_n 2, 1) := by decide +kernel
theorem dX2_differing_15 : decode cX2_differing 15 = .ok (.aload_n 0, 1) := by decide +kernel
theorem dX2_differing_16 : decode cX2_differing 16 = .ok (.getfield 27, 3) := by decide +kernel
theorem dX2_differing_19 : decode cX2_differing 19 = .ok (.aload_n 0, 1) := by decide +kernel
theorem dX2_differing_20 : decode cX2_differing 20 = .ok (.getfield 21, 3) := by decide +kernel
theorem dX2_differing_23 : decode cX2_differing 23 = .ok (.iload 4, 2) := by decide +kernel
theorem dX2_differing_25 : decode cX2_differing 25 = .ok (.iaload, 1) := by decide +kernel
theorem dX2_differing_26 : decode cX2_differing 26 = .ok (.laload, 1) := by decide +kernel
theorem dX2_differing_27 : decode cX2_differing 27 = .ok (.aload_n 1, 1) := by decide +kernel
theorem dX2_differing_28 : decode cX2_differing 28 = .ok (.aload_n 0, 1) := by decide +kernel
theorem dX2_differing_29 : decode cX2_differing 29 = .ok (.getfield 21, 3) := by decide +kernel
theorem dX2_differing_32 : decode cX2_differing 32 = .ok (.iload 4, 2) := by decide +kernel
theorem dX2_differing_34 : decode cX2_differing 34 = .ok (.iaload, 1) := by decide +kernel
theorem dX2_differing_35 : decode cX2_differing 35 = .ok (.laload, 1) := by decide +kernel
theorem dX2_differing_36 : decode cX2_differing 36 = .ok (.lxor, 1) := by decide +kernel
theorem dX2_differing_37 : decode cX2_differing 37 = .ok (.lor, 1) := by decide +kernel
theorem dX2_differing_38 : decode cX2_differing 38 = .ok (.lstore_n 2, 1) := by decide +kernel
theorem dX2_differing_39 : decode cX2_differing 39 = .ok (.iinc 4 1, 3) := by decide +kernel
theorem dX2_differing_42 : decode cX2_differing 42 = .ok (.goto (-37), 3) := by decide +kernel
theorem dX2_differing_45 : decode cX2_differing 45 = .ok (.iconst 0, 1) := by decide +kernel
theorem dX2_differing_46 : decode cX2_differing 46 = .ok (.istore 4, 2) := by decide +kernel
theorem dX2_differing_48 : decode cX2_differing 48 = .ok (.iload 4, 2) := by decide +kernel
theorem dX2_differing_50 : decode cX2_differing 50 = .ok (.aload_n 0, 1) := by decide +kernel
theorem dX2_differing_51 : decode cX2_differing 51 = .ok (.getfield 35, 3) := by decide +kernel
theorem dX2_differing_54 : decode cX2_differing 54 = .ok (.if_icmp .ge 45, 3) := by decide +kernel
theorem dX2_differing_57 : decode cX2_differing 57 = .ok (.aload_n 0, 1) := by decide +kernel
theorem dX2_differing_58 : decode cX2_differing 58 = .ok (.getfield 24, 3) := by decide +kernel
theorem dX2_differing_61 : decode cX2_differing 61 = .ok (.iload 4, 2) := by decide +kernel
theorem dX2_differing_63 : decode cX2_differing 63 = .ok (.iaload, 1) := by decide +kernel
theorem dX2_differing_64 : decode cX2_differing 64 = .ok (.iconst (-1), 1) := by decide +kernel
theorem dX2_differing_65 : decode cX2_differing 65 = .ok (.if_icmp .eq 28, 3) := by decide +kernel
theorem dX2_differing_68 : decode cX2_differing 68 = .ok (.lload_n 2, 1) := by decide +kernel
theorem dX2_differing_69 : decode cX2_differing 69 = .ok (.aload_n 0, 1) := by decide +kernel
theorem dX2_differing_70 : decode cX2_differing 70 = .ok (.getfield 27, 3) := by decide +kernel
theorem dX2_differing_73 : decode cX2_differing 73 = .ok (.aload_n 0, 1) := by decide +kernel
theorem dX2_differing_74 : decode cX2_differing 74 = .ok (.getfield 24, 3) := by decide +kernel
theorem dX2_differing_77 : decode cX2_differing 77 = .ok (.iload 4, 2) := by decide +kernel
theorem dX2_differing_79 : decode cX2_differing 79 = .ok (.iaload, 1) := by decide +kernel
theorem dX2_differing_80 : decode cX2_differing 80 = .ok (.laload, 1) := by decide +kernel
theorem dX2_differing_81 : decode cX2_differing 81 = .ok (.aload_n 1, 1) := by decide +kernel
theorem dX2_differing_82 : decode cX2_differing 82 = .ok (.aload_n 0, 1) := by decide +kernel
theorem dX2_differing_83 : decode cX2_differing 83 = .ok (.getfield 24, 3) := by decide +kernel
theorem dX2_differing_86 : decode cX2_differing 86 = .ok (.iload 4, 2) := by decide +kernel
theorem dX2_differing_88 : decode cX2_differing 88 = .ok (.iaload, 1) := by decide +kernel
theorem dX2_differing_89 : decode cX2_differing 89 = .ok (.laload, 1) := by decide +kernel
theorem dX2_differing_90 : decode cX2_differing 90 = .ok (.lxor, 1) := by decide +kernel
theorem dX2_differing_91 : decode cX2_differing 91 = .ok (.lor, 1) := by decide +kernel
theorem dX2_differing_92 : decode cX2_differing 92 = .ok (.lstore_n 2, 1) := by decide +kernel
theorem dX2_differing_93 : decode cX2_differing 93 = .ok (.iinc 4 1, 3) := by decide +kernel
theorem dX2_differing_96 : decode cX2_differing 96 = .ok (.goto (-48), 3) := by decide +kernel
theorem dX2_differing_99 : decode cX2_differing 99 = .ok (.lload_n 2, 1) := by decide +kernel
theorem dX2_differing_100 : decode cX2_differing 100 = .ok (.lreturn, 1) := by decide +kernel
