theorem dX4_init_0 : decode cX4_init 0 = .ok (.aload_n 0, 1) := by decide +kernel
theorem dX4_init_1 : decode cX4_init 1 = .ok (.invokespecial 5, 3) := by decide +kernel
theorem dX4_init_4 : decode cX4_init 4 = .ok (.aload_n 0, 1) := by decide +kernel
theorem dX4_init_5 : decode cX4_init 5 = .ok (.sipush 900, 3) := by decide +kernel
theorem dX4_init_8 : decode cX4_init 8 = .ok (.newarray .int, 2) := by decide +kernel
theorem dX4_init_10 : decode cX4_init 10 = .ok (.putfield 11, 3) := by decide +kernel
theorem dX4_init_13 : decode cX4_init 13 = .ok (.aload_n 0, 1) := by decide +kernel
theorem dX4_init_14 : decode cX4_init 14 = .ok (.sipush 286, 3) := by decide +kernel
theorem dX4_init_17 : decode cX4_init 17 = .ok (.newarray .int, 2) := by decide +kernel
theorem dX4_init_19 : decode cX4_init 19 = .ok (.putfield 15, 3) := by decide +kernel
theorem dX4_init_22 : decode cX4_init 22 = .ok (.aload_n 0, 1) := by decide +kernel
theorem dX4_init_23 : decode cX4_init 23 = .ok (.iconst (-1), 1) := by decide +kernel
theorem dX4_init_24 : decode cX4_init 24 = .ok (.putfield 18, 3) := by decide +kernel
theorem dX4_init_27 : decode cX4_init 27 = .ok (.aload_n 0, 1) := by decide +kernel
theorem dX4_init_28 : decode cX4_init 28 = .ok (.aload_n 1, 1) := by decide +kernel
theorem dX4_init_29 : decode cX4_init 29 = .ok (.putfield 22, 3) := by decide +kernel
theorem dX4_init_32 : decode cX4_init 32 = .ok (.return_, 1) := by decide +kernel
theorem dX4_append_0 : decode cX4_append 0 = .ok (.aload_n 0, 1) := by decide +kernel
theorem dX4_append_1 : decode cX4_append 1 = .ok (.getfield 26, 3) := by decide +kernel
theorem dX4_append_4 : decode cX4_append 4 = .ok (.iload_n 1, 1) := by decide +kernel
theorem dX4_append_5 : decode cX4_append 5 = .ok (.iadd, 1) := by decide +kernel
theorem dX4_append_6 : decode cX4_append 6 = .ok (.sipush 900, 3) := by decide +kernel
theorem dX4_append_9 : decode cX4_append 9 = .ok (.if_icmp .le 5, 3) := by decide +kernel
theorem dX4_append_12 : decode cX4_append 12 = .ok (.iconst (-1), 1) := by decide +kernel
theorem dX4_append_13 : decode cX4_append 13 = .ok (.ireturn, 1) := by decide +kernel
theorem dX4_append_14 : decode cX4_append 14 = .ok (.iconst 0, 1) := by decide +kernel
theorem dX4_append_15 : decode cX4_append 15 = .ok (.istore 4, 2) := by decide +kernel
theorem dX4_append_17 : decode cX4_append 17 = .ok (.iload 4, 2) := by decide +kernel
theorem dX4_append_19 : decode cX4_append 19 = .ok (.iload_n 1, 1) := by decide +kernel
theorem dX4_append_20 : decode cX4_append 20 = .ok (.if_icmp .ge 33, 3) := by decide +kernel
theorem dX4_append_23 : decode cX4_append 23 = .ok (.aload_n 0, 1) := by decide +kernel
theorem dX4_append_24 : decode cX4_append 24 = .ok (.getfield 11, 3) := by decide +kernel
theorem dX4_append_27 : decode cX4_append 27 = .ok (.aload_n 0, 1) := by decide +kernel
theorem dX4_append_28 : decode cX4_append 28 = .ok (.getfield 26, 3) := by decide +kernel
theorem dX4_append_31 : decode cX4_append 31 = .ok (.iload 4, 2) := by decide +kernel
theorem dX4_append_33 : decode cX4_append 33 = .ok (.iadd, 1) := by decide +kernel
theorem dX4_append_34 : decode cX4_append 34 = .ok (.lload_n 2, 1) := by decide +kernel
theorem dX4_append_35 : decode cX4_append 35 = .ok (.bipush 8, 2) := by decide +kernel
theorem dX4_append_37 : decode cX4_append 37 = .ok (.iload 4, 2) := by decide +kernel
theorem dX4_append_39 : decode cX4_append 39 = .ok (.imul, 1) := by decide +kernel
theorem dX4_append_40 : decode cX4_append 40 = .ok (.lshr, 1) := by decide +kernel
theorem dX4_append_41 : decode cX4_append 41 = .ok (.ldc2_w 29, 3) := by decide +kernel
theorem dX4_append_44 : decode cX4_append 44 = .ok (.land, 1) := by decide +kernel
theorem dX4_append_45 : decode cX4_append 45 = .ok (.l2i, 1) := by decide +kernel
theorem dX4_append_46 : decode cX4_append 46 = .ok (.iastore, 1) := by decide +kernel
theorem dX4_append_47 : decode cX4_append 47 = .ok (.iinc 4 1, 3) := by decide +kernel
theorem dX4_append_50 : decode cX4_append 50 = .ok (.goto (-33), 3) := by decide +kernel
theorem dX4_append_53 : decode cX4_append 53 = .ok (.aload_n 0, 1) := by decide +kernel
theorem dX4_append_54 : decode cX4_append 54 = .ok (.dup, 1) := by decide +kernel
theorem dX4_append_55 : decode cX4_append 55 = .ok (.getfield 26, 3) := by decide +kernel
theorem dX4_append_58 : decode cX4_append 58 = .ok (.iload_n 1, 1) := by decide +kernel
theorem dX4_append_59 : decode cX4_append 59 = .ok (.iadd, 1) := by decide +kernel
theorem dX4_append_60 : decode cX4_append 60 = .ok (.putfield 26, 3) := by decide +kernel
theorem dX4_append_63 : decode cX4_append 63 = .ok (.aload_n 0, 1) := by decide +kernel
theorem dX4_append_64 : decode cX4_append 64 = .ok (.getfield 26, 3) := by decide +kernel
theorem dX4_append_67 : decode cX4_append 67 = .ok (.ireturn, 1) := by decide +kernel
theorem dX4_empty_0 : decode cX4_empty 0 = .ok (.aload_n 0, 1) := by decide +kernel
theorem dX4_empty_1 : decode cX4_empty 1 = .ok (.getfield 26, 3) := by decide +kernel
theorem dX4_empty_4 : decode cX4_empty 4 = .ok (.istore_n 1, 1) := by decide +kernel
theorem dX4_empty_5 : decode cX4_empty 5 = .ok (.aload_n 0, 1) := by decide +kernel
theorem dX4_empty_6 : decode cX4_empty 6 = .ok (.iconst 0, 1) := by decide +kernel
theorem dX4_empty_7 : decode cX4_empty 7 = .ok (.putfield 26, 3) := by decide +kernel
theorem dX4_empty_10 : decode cX4_empty 10 = .ok (.iload_n 1, 1) := by decide +kernel
theorem dX4_empty_11 : decode cX4_empty 11 = .ok (.ireturn, 1) := by decide +kernel
theorem dX4_accept_0 : decode cX4_accept 0 = .ok (.aload_n 0, 1) := by decide +kernel
theorem dX4_accept_1 : decode cX4_accept 1 = .ok (.getfield 22, 3) := by decide +kernel
theorem dX4_accept_4 : decode cX4_accept 4 = .ok (.invokevirtual 31, 3) := by decide +kernel
theorem dX4_accept_7 : decode cX4_accept 7 = .ok (.aload_n 0, 1) := by decide +kernel
theorem dX4_accept_8 : decode cX4_accept 8 = .ok (.getfield 15, 3) := by decide +kernel
theorem dX4_accept_11 : decode cX4_accept 11 = .ok (.iconst (-1), 1) := by decide +kernel
theorem dX4_accept_12 : decode cX4_accept 12 = .ok (.invokestatic 36, 3) := by decide +kernel
theorem dX4_accept_15 : decode cX4_accept 15 = .ok (.aload_n 0, 1) := by decide +kernel
theorem dX4_accept_16 : decode cX4_accept 16 = .ok (.iconst 0, 1) := by decide +kernel
theorem dX4_accept_17 : decode cX4_accept 17 = .ok (.putfield 42, 3) := by decide +kernel
theorem dX4_accept_20 : decode cX4_accept 20 = .ok (.aload_n 0, 1) := by decide +kernel
theorem dX4_accept_21 : decode cX4_accept 21 = .ok (.iconst (-1), 1) := by decide +kernel
theorem dX4_accept_22 : decode cX4_accept 22 = .ok (.putfield 18, 3) := by decide +kernel
theorem dX4_accept_25 : decode cX4_accept 25 = .ok (.aload_n 0, 1) := by decide +kernel
theorem dX4_accept_26 : decode cX4_accept 26 = .ok (.iconst 0, 1) := by decide +kernel
theorem dX4_accept_27 : decode cX4_accept 27 = .ok (.putfield 45, 3) := by decide +kernel
theorem dX4_accept_30 : decode cX4_accept 30 = .ok (.aload_n 0, 1) := by decide +kernel
theorem dX4_accept_31 : decode cX4_accept 31 = .ok (.invokevirtual 48, 3) := by decide +kernel
theorem dX4_accept_34 : decode cX4_accept 34 = .ok (.aload_n 0, 1) := by decide +kernel
theorem dX4_accept_35 : decode cX4_accept 35 = .ok (.ldc 51, 2) := by decide +kernel
theorem dX4_accept_37 : decode cX4_accept 37 = .ok (.invokevirtual 53, 3) := by decide +kernel
theorem dX4_accept_40 : decode cX4_accept 40 = .ok (.ifCond .eq 62, 3) := by decide +kernel
theorem dX4_accept_43 : decode cX4_accept 43 = .ok (.aload_n 0, 1) := by decide +kernel
theorem dX4_accept_44 : decode cX4_accept 44 = .ok (.iconst 0, 1) := by decide +kernel
theorem dX4_accept_45 : decode cX4_accept 45 = .ok (.invokevirtual 57, 3) := by decide +kernel
theorem dX4_accept_48 : decode cX4_accept 48 = .ok (.ifCond .eq 54, 3) := by decide +kernel
theorem dX4_accept_51 : decode cX4_accept 51 = .ok (.aload_n 0, 1) := by decide +kernel
theorem dX4_accept_52 : decode cX4_accept 52 = .ok (.ldc 61, 2) := by decide +kernel
theorem dX4_accept_54 : decode cX4_accept 54 = .ok (.invokevirtual 53, 3) := by decide +kernel
theorem dX4_accept_57 : decode cX4_accept 57 = .ok (.ifCond .eq 45, 3) := by decide +kernel
theorem dX4_accept_60 : decode cX4_accept 60 = .ok (.aload_n 0, 1) := by decide +kernel
theorem dX4_accept_61 : decode cX4_accept 61 = .ok (.iconst 1, 1) := by decide +kernel
theorem dX4_accept_62 : decode cX4_accept 62 = .ok (.invokevirtual 57, 3) := by decide +kernel
theorem dX4_accept_65 : decode cX4_accept 65 = .ok (.ifCond .eq 37, 3) := by decide +kernel
theorem dX4_accept_68 : decode cX4_accept 68 = .ok (.aload_n 0, 1) := by decide +kernel
theorem dX4_accept_69 : decode cX4_accept 69 = .ok (.invokevirtual 63, 3) := by decide +kernel
theorem dX4_accept_72 : decode cX4_accept 72 = .ok (.ifCond .eq 30, 3) := by decide +kernel
theorem dX4_accept_75 : decode cX4_accept 75 = .ok (.aload_n 0, 1) := by decide +kernel
theorem dX4_accept_76 : decode cX4_accept 76 = .ok (.ldc 67, 2) := by decide +kernel
theorem dX4_accept_78 : decode cX4_accept 78 = .ok (.invokevirtual 53, 3) := by decide +kernel
theorem dX4_accept_81 : decode cX4_accept 81 = .ok (.ifCond .eq 21, 3) := by decide +kernel
theorem dX4_accept_84 : decode cX4_accept 84 = .ok (.aload_n 0, 1) := by decide +kernel
theorem dX4_accept_85 : decode cX4_accept 85 = .ok (.invokevirtual 69, 3) := by decide +kernel
theorem dX4_accept_88 : decode cX4_accept 88 = .ok (.ifCond .eq 14, 3) := by decide +kernel
theorem dX4_accept_91 : decode cX4_accept 91 = .ok (.aload_n 0, 1) := by decide +kernel
theorem dX4_accept_92 : decode cX4_accept 92 = .ok (.invokevirtual 72, 3) := by decide +kernel
theorem dX4_accept_95 : decode cX4_accept 95 = .ok (.ifCond .eq 7, 3) := by decide +kernel
theorem dX4_accept_98 : decode cX4_accept 98 = .ok (.iconst 1, 1) := by decide +kernel
theorem dX4_accept_99 : decode cX4_accept 99 = .ok (.goto 4, 3) := by decide +kernel
theorem dX4_accept_102 : decode cX4_accept 102 = .ok (.iconst 0, 1) := by decide +kernel
theorem dX4_accept_103 : decode cX4_accept 103 = .ok (.ireturn, 1) := by decide +kernel
theorem dX4_refuse_0 : decode cX4_refuse 0 = .ok (.aload_n 0, 1) := by decide +kernel
theorem dX4_refuse_1 : decode cX4_refuse 1 = .ok (.iload_n 1, 1) := by decide +kernel
theorem dX4_refuse_2 : decode cX4_refuse 2 = .ok (.putfield 42, 3) := by decide +kernel
theorem dX4_refuse_5 : decode cX4_refuse 5 = .ok (.aload_n 0, 1) := by decide +kernel
theorem dX4_refuse_6 : decode cX4_refuse 6 = .ok (.iload_n 2, 1) := by decide +kernel
theorem dX4_refuse_7 : decode cX4_refuse 7 = .ok (.putfield 18, 3) := by decide +kernel
theorem dX4_refuse_10 : decode cX4_refuse 10 = .ok (.iconst 0, 1) := by decide +kernel
theorem dX4_refuse_11 : decode cX4_refuse 11 = .ok (.ireturn, 1) := by decide +kernel
theorem dX4_advance_0 : decode cX4_advance 0 = .ok (.aload_n 0, 1) := by decide +kernel
theorem dX4_advance_1 : decode cX4_advance 1 = .ok (.aload_n 0, 1) := by decide +kernel
theorem dX4_advance_2 : decode cX4_advance 2 = .ok (.getfield 45, 3) := by decide +kernel
theorem dX4_advance_5 : decode cX4_advance 5 = .ok (.putfield 75, 3) := by decide +kernel
theorem dX4_advance_8 : decode cX4_advance 8 = .ok (.aload_n 0, 1) := by decide +kernel
theorem dX4_advance_9 : decode cX4_advance 9 = .ok (.getfield 75, 3) := by decide +kernel
theorem dX4_advance_12 : decode cX4_advance 12 = .ok (.aload_n 0, 1) := by decide +kernel
theorem dX4_advance_13 : decode cX4_advance 13 = .ok (.getfield 26, 3) := by decide +kernel
theorem dX4_advance_16 : decode cX4_advance 16 = .ok (.if_icmp .ge 30, 3) := by decide +kernel
theorem dX4_advance_19 : decode cX4_advance 19 = .ok (.aload_n 0, 1) := by decide +kernel
theorem dX4_advance_20 : decode cX4_advance 20 = .ok (.getfield 11, 3) := by decide +kernel
theorem dX4_advance_23 : decode cX4_advance 23 = .ok (.aload_n 0, 1) := by decide +kernel
theorem dX4_advance_24 : decode cX4_advance 24 = .ok (.getfield 75, 3) := by decide +kernel
theorem dX4_advance_27 : decode cX4_advance 27 = .ok (.iaload, 1) := by decide +kernel
theorem dX4_advance_28 : decode cX4_advance 28 = .ok (.bipush 32, 2) := by decide +kernel
theorem dX4_advance_30 : decode cX4_advance 30 = .ok (.if_icmp .gt 16, 3) := by decide +kernel
theorem dX4_advance_33 : decode cX4_advance 33 = .ok (.aload_n 0, 1) := by decide +kernel
theorem dX4_advance_34 : decode cX4_advance 34 = .ok (.dup, 1) := by decide +kernel
theorem dX4_advance_35 : decode cX4_advance 35 = .ok (.getfield 75, 3) := by decide +kernel
theorem dX4_advance_38 : decode cX4_advance 38 = .ok (.iconst 1, 1) := by decide +kernel
theorem dX4_advance_39 : decode cX4_advance 39 = .ok (.iadd, 1) := by decide +kernel
theorem dX4_advance_40 : decode cX4_advance 40 = .ok (.putfield 75, 3) := by decide +kernel
theorem dX4_advance_43 : decode cX4_advance 43 = .ok (.goto (-35), 3) := by decide +kernel
theorem dX4_advance_46 : decode cX4_advance 46 = .ok (.aload_n 0, 1) := by decide +kernel
theorem dX4_advance_47 : decode cX4_advance 47 = .ok (.aload_n 0, 1) := by decide +kernel
theorem dX4_advance_48 : decode cX4_advance 48 = .ok (.getfield 75, 3) := by decide +kernel
theorem dX4_advance_51 : decode cX4_advance 51 = .ok (.putfield 45, 3) := by decide +kernel
theorem dX4_advance_54 : decode cX4_advance 54 = .ok (.aload_n 0, 1) := by decide +kernel
theorem dX4_advance_55 : decode cX4_advance 55 = .ok (.getfield 45, 3) := by decide +kernel
theorem dX4_advance_58 : decode cX4_advance 58 = .ok (.aload_n 0, 1) := by decide +kernel
theorem dX4_advance_59 : decode cX4_advance 59 = .ok (.getfield 26, 3) := by decide +kernel
theorem dX4_advance_62 : decode cX4_advance 62 = .ok (.if_icmp .ge 31, 3) := by decide +kernel
theorem dX4_advance_65 : decode cX4_advance 65 = .ok (.aload_n 0, 1) := by decide +kernel
theorem dX4_advance_66 : decode cX4_advance 66 = .ok (.getfield 11, 3) := by decide +kernel
theorem dX4_advance_69 : decode cX4_advance 69 = .ok (.aload_n 0, 1) := by decide +kernel
theorem dX4_advance_70 : decode cX4_advance 70 = .ok (.getfield 45, 3) := by decide +kernel
theorem dX4_advance_73 : decode cX4_advance 73 = .ok (.iaload, 1) := by decide +kernel
theorem dX4_advance_74 : decode cX4_advance 74 = .ok (.invokestatic 78, 3) := by decide +kernel
theorem dX4_advance_77 : decode cX4_advance 77 = .ok (.ifCond .eq 16, 3) := by decide +kernel
theorem dX4_advance_80 : decode cX4_advance 80 = .ok (.aload_n 0, 1) := by decide +kernel
theorem dX4_advance_81 : decode cX4_advance 81 = .ok (.dup, 1) := by decide +kernel
theorem dX4_advance_82 : decode cX4_advance 82 = .ok (.getfield 45, 3) := by decide +kernel
theorem dX4_advance_85 : decode cX4_advance 85 = .ok (.iconst 1, 1) := by decide +kernel
theorem dX4_advance_86 : decode cX4_advance 86 = .ok (.iadd, 1) := by decide +kernel
theorem dX4_advance_87 : decode cX4_advance 87 = .ok (.putfield 45, 3) := by decide +kernel
theorem dX4_advance_90 : decode cX4_advance 90 = .ok (.goto (-36), 3) := by decide +kernel
theorem dX4_advance_93 : decode cX4_advance 93 = .ok (.aload_n 0, 1) := by decide +kernel
theorem dX4_advance_94 : decode cX4_advance 94 = .ok (.aload_n 0, 1) := by decide +kernel
theorem dX4_advance_95 : decode cX4_advance 95 = .ok (.invokevirtual 82, 3) := by decide +kernel
theorem dX4_advance_98 : decode cX4_advance 98 = .ok (.putfield 86, 3) := by decide +kernel
theorem dX4_advance_101 : decode cX4_advance 101 = .ok (.aload_n 0, 1) := by decide +kernel
theorem dX4_advance_102 : decode cX4_advance 102 = .ok (.getfield 45, 3) := by decide +kernel
theorem dX4_advance_105 : decode cX4_advance 105 = .ok (.aload_n 0, 1) := by decide +kernel
theorem dX4_advance_106 : decode cX4_advance 106 = .ok (.getfield 75, 3) := by decide +kernel
theorem dX4_advance_109 : decode cX4_advance 109 = .ok (.if_icmp .ne 24, 3) := by decide +kernel
theorem dX4_advance_112 : decode cX4_advance 112 = .ok (.aload_n 0, 1) := by decide +kernel
theorem dX4_advance_113 : decode cX4_advance 113 = .ok (.getfield 75, 3) := by decide +kernel
theorem dX4_advance_116 : decode cX4_advance 116 = .ok (.aload_n 0, 1) := by decide +kernel
theorem dX4_advance_117 : decode cX4_advance 117 = .ok (.getfield 26, 3) := by decide +kernel
theorem dX4_advance_120 : decode cX4_advance 120 = .ok (.if_icmp .ge 13, 3) := by decide +kernel
theorem dX4_advance_123 : decode cX4_advance 123 = .ok (.aload_n 0, 1) := by decide +kernel
theorem dX4_advance_124 : decode cX4_advance 124 = .ok (.dup, 1) := by decide +kernel
theorem dX4_advance_125 : decode cX4_advance 125 = .ok (.getfield 45, 3) := by decide +kernel
theorem dX4_advance_128 : decode cX4_advance 128 = .ok (.iconst 1, 1) := by decide +kernel
theorem dX4_advance_129 : decode cX4_advance 129 = .ok (.iadd, 1) := by decide +kernel
theorem dX4_advance_130 : decode cX4_advance 130 = .ok (.putfield 45, 3) := by decide +kernel
theorem dX4_advance_133 : decode cX4_advance 133 = .ok (.return_, 1) := by decide +kernel
theorem dX4_isWordByte_0 : decode cX4_isWordByte 0 = .ok (.iload_n 0, 1) := by decide +kernel
theorem dX4_isWordByte_1 : decode cX4_isWordByte 1 = .ok (.bipush 97, 2) := by decide +kernel
theorem dX4_isWordByte_3 : decode cX4_isWordByte 3 = .ok (.if_icmp .lt 9, 3) := by decide +kernel
theorem dX4_isWordByte_6 : decode cX4_isWordByte 6 = .ok (.iload_n 0, 1) := by decide +kernel
theorem dX4_isWordByte_7 : decode cX4_isWordByte 7 = .ok (.bipush 122, 2) := by decide +kernel
theorem dX4_isWordByte_9 : decode cX4_isWordByte 9 = .ok (.if_icmp .le 15, 3) := by decide +kernel
theorem dX4_isWordByte_12 : decode cX4_isWordByte 12 = .ok (.iload_n 0, 1) := by decide +kernel
theorem dX4_isWordByte_13 : decode cX4_isWordByte 13 = .ok (.bipush 48, 2) := by decide +kernel
theorem dX4_isWordByte_15 : decode cX4_isWordByte 15 = .ok (.if_icmp .lt 13, 3) := by decide +kernel
theorem dX4_isWordByte_18 : decode cX4_isWordByte 18 = .ok (.iload_n 0, 1) := by decide +kernel
theorem dX4_isWordByte_19 : decode cX4_isWordByte 19 = .ok (.bipush 57, 2) := by decide +kernel
theorem dX4_isWordByte_21 : decode cX4_isWordByte 21 = .ok (.if_icmp .gt 7, 3) := by decide +kernel
theorem dX4_isWordByte_24 : decode cX4_isWordByte 24 = .ok (.iconst 1, 1) := by decide +kernel
theorem dX4_isWordByte_25 : decode cX4_isWordByte 25 = .ok (.goto 4, 3) := by decide +kernel
theorem dX4_isWordByte_28 : decode cX4_isWordByte 28 = .ok (.iconst 0, 1) := by decide +kernel
theorem dX4_isWordByte_29 : decode cX4_isWordByte 29 = .ok (.ireturn, 1) := by decide +kernel
theorem dX4_nameHere_0 : decode cX4_nameHere 0 = .ok (.aload_n 0, 1) := by decide +kernel
theorem dX4_nameHere_1 : decode cX4_nameHere 1 = .ok (.getfield 45, 3) := by decide +kernel
theorem dX4_nameHere_4 : decode cX4_nameHere 4 = .ok (.aload_n 0, 1) := by decide +kernel
theorem dX4_nameHere_5 : decode cX4_nameHere 5 = .ok (.getfield 75, 3) := by decide +kernel
theorem dX4_nameHere_8 : decode cX4_nameHere 8 = .ok (.isub, 1) := by decide +kernel
theorem dX4_nameHere_9 : decode cX4_nameHere 9 = .ok (.istore_n 1, 1) := by decide +kernel
theorem dX4_nameHere_10 : decode cX4_nameHere 10 = .ok (.iload_n 1, 1) := by decide +kernel
theorem dX4_nameHere_11 : decode cX4_nameHere 11 = .ok (.iconst 1, 1) := by decide +kernel
theorem dX4_nameHere_12 : decode cX4_nameHere 12 = .ok (.if_icmp .lt 22, 3) := by decide +kernel
theorem dX4_nameHere_15 : decode cX4_nameHere 15 = .ok (.iload_n 1, 1) := by decide +kernel
theorem dX4_nameHere_16 : decode cX4_nameHere 16 = .ok (.iconst 2, 1) := by decide +kernel
theorem dX4_nameHere_17 : decode cX4_nameHere 17 = .ok (.if_icmp .gt 17, 3) := by decide +kernel
theorem dX4_nameHere_20 : decode cX4_nameHere 20 = .ok (.aload_n 0, 1) := by decide +kernel
theorem dX4_nameHere_21 : decode cX4_nameHere 21 = .ok (.getfield 11, 3) := by decide +kernel
theorem dX4_nameHere_24 : decode cX4_nameHere 24 = .ok (.aload_n 0, 1) := by decide +kernel
theorem dX4_nameHere_25 : decode cX4_nameHere 25 = .ok (.getfield 75, 3) := by decide +kernel
theorem dX4_nameHere_28 : decode cX4_nameHere 28 = .ok (.iaload, 1) := by decide +kernel
theorem dX4_nameHere_29 : decode cX4_nameHere 29 = .ok (.bipush 97, 2) := by decide +kernel
theorem dX4_nameHere_31 : decode cX4_nameHere 31 = .ok (.if_icmp .ge 5, 3) := by decide +kernel
theorem dX4_nameHere_34 : decode cX4_nameHere 34 = .ok (.iconst (-1), 1) := by decide +kernel
theorem dX4_nameHere_35 : decode cX4_nameHere 35 = .ok (.ireturn, 1) := by decide +kernel
theorem dX4_nameHere_36 : decode cX4_nameHere 36 = .ok (.aload_n 0, 1) := by decide +kernel
theorem dX4_nameHere_37 : decode cX4_nameHere 37 = .ok (.getfield 11, 3) := by decide +kernel
theorem dX4_nameHere_40 : decode cX4_nameHere 40 = .ok (.aload_n 0, 1) := by decide +kernel
theorem dX4_nameHere_41 : decode cX4_nameHere 41 = .ok (.getfield 75, 3) := by decide +kernel
theorem dX4_nameHere_44 : decode cX4_nameHere 44 = .ok (.iaload, 1) := by decide +kernel
theorem dX4_nameHere_45 : decode cX4_nameHere 45 = .ok (.bipush 97, 2) := by decide +kernel
theorem dX4_nameHere_47 : decode cX4_nameHere 47 = .ok (.isub, 1) := by decide +kernel
theorem dX4_nameHere_48 : decode cX4_nameHere 48 = .ok (.bipush 11, 2) := by decide +kernel
theorem dX4_nameHere_50 : decode cX4_nameHere 50 = .ok (.imul, 1) := by decide +kernel
theorem dX4_nameHere_51 : decode cX4_nameHere 51 = .ok (.istore_n 2, 1) := by decide +kernel
theorem dX4_nameHere_52 : decode cX4_nameHere 52 = .ok (.iload_n 1, 1) := by decide +kernel
theorem dX4_nameHere_53 : decode cX4_nameHere 53 = .ok (.iconst 1, 1) := by decide +kernel
theorem dX4_nameHere_54 : decode cX4_nameHere 54 = .ok (.if_icmp .ne 5, 3) := by decide +kernel
theorem dX4_nameHere_57 : decode cX4_nameHere 57 = .ok (.iload_n 2, 1) := by decide +kernel
theorem dX4_nameHere_58 : decode cX4_nameHere 58 = .ok (.ireturn, 1) := by decide +kernel
theorem dX4_nameHere_59 : decode cX4_nameHere 59 = .ok (.aload_n 0, 1) := by decide +kernel
theorem dX4_nameHere_60 : decode cX4_nameHere 60 = .ok (.getfield 11, 3) := by decide +kernel
theorem dX4_nameHere_63 : decode cX4_nameHere 63 = .ok (.aload_n 0, 1) := by decide +kernel
theorem dX4_nameHere_64 : decode cX4_nameHere 64 = .ok (.getfield 75, 3) := by decide +kernel
theorem dX4_nameHere_67 : decode cX4_nameHere 67 = .ok (.iconst 1, 1) := by decide +kernel
theorem dX4_nameHere_68 : decode cX4_nameHere 68 = .ok (.iadd, 1) := by decide +kernel
theorem dX4_nameHere_69 : decode cX4_nameHere 69 = .ok (.iaload, 1) := by decide +kernel
theorem dX4_nameHere_70 : decode cX4_nameHere 70 = .ok (.bipush 97, 2) := by decide +kernel
theorem dX4_nameHere_72 : decode cX4_nameHere 72 = .ok (.if_icmp .ge 24, 3) := by decide +kernel
theorem dX4_nameHere_75 : decode cX4_nameHere 75 = .ok (.iload_n 2, 1) := by decide +kernel
theorem dX4_nameHere_76 : decode cX4_nameHere 76 = .ok (.iconst 1, 1) := by decide +kernel
theorem dX4_nameHere_77 : decode cX4_nameHere 77 = .ok (.iadd, 1) := by decide +kernel
theorem dX4_nameHere_78 : decode cX4_nameHere 78 = .ok (.aload_n 0, 1) := by decide +kernel
theorem dX4_nameHere_79 : decode cX4_nameHere 79 = .ok (.getfield 11, 3) := by decide +kernel
theorem dX4_nameHere_82 : decode cX4_nameHere 82 = .ok (.aload_n 0, 1) := by decide +kernel
theorem dX4_nameHere_83 : decode cX4_nameHere 83 = .ok (.getfield 75, 3) := by decide +kernel
theorem dX4_nameHere_86 : decode cX4_nameHere 86 = .ok (.iconst 1, 1) := by decide +kernel
theorem dX4_nameHere_87 : decode cX4_nameHere 87 = .ok (.iadd, 1) := by decide +kernel
theorem dX4_nameHere_88 : decode cX4_nameHere 88 = .ok (.iaload, 1) := by decide +kernel
theorem dX4_nameHere_89 : decode cX4_nameHere 89 = .ok (.iadd, 1) := by decide +kernel
theorem dX4_nameHere_90 : decode cX4_nameHere 90 = .ok (.bipush 48, 2) := by decide +kernel
theorem dX4_nameHere_92 : decode cX4_nameHere 92 = .ok (.isub, 1) := by decide +kernel
theorem dX4_nameHere_93 : decode cX4_nameHere 93 = .ok (.goto 4, 3) := by decide +kernel
theorem dX4_nameHere_96 : decode cX4_nameHere 96 = .ok (.iconst (-1), 1) := by decide +kernel
theorem dX4_nameHere_97 : decode cX4_nameHere 97 = .ok (.ireturn, 1) := by decide +kernel
theorem dX4_isWord_0 : decode cX4_isWord 0 = .ok (.aload_n 0, 1) := by decide +kernel
theorem dX4_isWord_1 : decode cX4_isWord 1 = .ok (.getfield 45, 3) := by decide +kernel
theorem dX4_isWord_4 : decode cX4_isWord 4 = .ok (.aload_n 0, 1) := by decide +kernel
theorem dX4_isWord_5 : decode cX4_isWord 5 = .ok (.getfield 75, 3) := by decide +kernel
theorem dX4_isWord_8 : decode cX4_isWord 8 = .ok (.isub, 1) := by decide +kernel
theorem dX4_isWord_9 : decode cX4_isWord 9 = .ok (.aload_n 1, 1) := by decide +kernel
theorem dX4_isWord_10 : decode cX4_isWord 10 = .ok (.invokevirtual 89, 3) := by decide +kernel
theorem dX4_isWord_13 : decode cX4_isWord 13 = .ok (.if_icmp .eq 5, 3) := by decide +kernel
theorem dX4_isWord_16 : decode cX4_isWord 16 = .ok (.iconst 0, 1) := by decide +kernel
theorem dX4_isWord_17 : decode cX4_isWord 17 = .ok (.ireturn, 1) := by decide +kernel
theorem dX4_isWord_18 : decode cX4_isWord 18 = .ok (.iconst 0, 1) := by decide +kernel
theorem dX4_isWord_19 : decode cX4_isWord 19 = .ok (.istore_n 2, 1) := by decide +kernel
theorem dX4_isWord_20 : decode cX4_isWord 20 = .ok (.iload_n 2, 1) := by decide +kernel
theorem dX4_isWord_21 : decode cX4_isWord 21 = .ok (.aload_n 1, 1) := by decide +kernel
theorem dX4_isWord_22 : decode cX4_isWord 22 = .ok (.invokevirtual 89, 3) := by decide +kernel
theorem dX4_isWord_25 : decode cX4_isWord 25 = .ok (.if_icmp .ge 43, 3) := by decide +kernel
theorem dX4_isWord_28 : decode cX4_isWord 28 = .ok (.aload_n 0, 1) := by decide +kernel
theorem dX4_isWord_29 : decode cX4_isWord 29 = .ok (.getfield 75, 3) := by decide +kernel
theorem dX4_isWord_32 : decode cX4_isWord 32 = .ok (.iload_n 2, 1) := by decide +kernel
theorem dX4_isWord_33 : decode cX4_isWord 33 = .ok (.iadd, 1) := by decide +kernel
theorem dX4_isWord_34 : decode cX4_isWord 34 = .ok (.aload_n 0, 1) := by decide +kernel
theorem dX4_isWord_35 : decode cX4_isWord 35 = .ok (.getfield 26, 3) := by decide +kernel
theorem dX4_isWord_38 : decode cX4_isWord 38 = .ok (.if_icmp .ge 22, 3) := by decide +kernel
theorem dX4_isWord_41 : decode cX4_isWord 41 = .ok (.aload_n 0, 1) := by decide +kernel
theorem dX4_isWord_42 : decode cX4_isWord 42 = .ok (.getfield 11, 3) := by decide +kernel
theorem dX4_isWord_45 : decode cX4_isWord 45 = .ok (.aload_n 0, 1) := by decide +kernel
theorem dX4_isWord_46 : decode cX4_isWord 46 = .ok (.getfield 75, 3) := by decide +kernel
theorem dX4_isWord_49 : decode cX4_isWord 49 = .ok (.iload_n 2, 1) := by decide +kernel
theorem dX4_isWord_50 : decode cX4_isWord 50 = .ok (.iadd, 1) := by decide +kernel
theorem dX4_isWord_51 : decode cX4_isWord 51 = .ok (.iaload, 1) := by decide +kernel
theorem dX4_isWord_52 : decode cX4_isWord 52 = .ok (.aload_n 1, 1) := by decide +kernel
theorem dX4_isWord_53 : decode cX4_isWord 53 = .ok (.iload_n 2, 1) := by decide +kernel
theorem dX4_isWord_54 : decode cX4_isWord 54 = .ok (.invokevirtual 93, 3) := by decide +kernel
theorem dX4_isWord_57 : decode cX4_isWord 57 = .ok (.if_icmp .eq 5, 3) := by decide +kernel
theorem dX4_isWord_60 : decode cX4_isWord 60 = .ok (.iconst 0, 1) := by decide +kernel
theorem dX4_isWord_61 : decode cX4_isWord 61 = .ok (.ireturn, 1) := by decide +kernel
theorem dX4_isWord_62 : decode cX4_isWord 62 = .ok (.iinc 2 1, 3) := by decide +kernel
theorem dX4_isWord_65 : decode cX4_isWord 65 = .ok (.goto (-45), 3) := by decide +kernel
theorem dX4_isWord_68 : decode cX4_isWord 68 = .ok (.iconst 1, 1) := by decide +kernel
theorem dX4_isWord_69 : decode cX4_isWord 69 = .ok (.ireturn, 1) := by decide +kernel
theorem dX4_word_0 : decode cX4_word 0 = .ok (.aload_n 0, 1) := by decide +kernel
theorem dX4_word_1 : decode cX4_word 1 = .ok (.aload_n 1, 1) := by decide +kernel
theorem dX4_word_2 : decode cX4_word 2 = .ok (.invokevirtual 97, 3) := by decide +kernel
theorem dX4_word_5 : decode cX4_word 5 = .ok (.ifCond .ne 13, 3) := by decide +kernel
theorem dX4_word_8 : decode cX4_word 8 = .ok (.aload_n 0, 1) := by decide +kernel
theorem dX4_word_9 : decode cX4_word 9 = .ok (.iconst 1, 1) := by decide +kernel
theorem dX4_word_10 : decode cX4_word 10 = .ok (.aload_n 0, 1) := by decide +kernel
theorem dX4_word_11 : decode cX4_word 11 = .ok (.getfield 75, 3) := by decide +kernel
theorem dX4_word_14 : decode cX4_word 14 = .ok (.invokevirtual 100, 3) := by decide +kernel
theorem dX4_word_17 : decode cX4_word 17 = .ok (.ireturn, 1) := by decide +kernel
theorem dX4_word_18 : decode cX4_word 18 = .ok (.aload_n 0, 1) := by decide +kernel
theorem dX4_word_19 : decode cX4_word 19 = .ok (.invokevirtual 48, 3) := by decide +kernel
theorem dX4_word_22 : decode cX4_word 22 = .ok (.iconst 1, 1) := by decide +kernel
theorem dX4_word_23 : decode cX4_word 23 = .ok (.ireturn, 1) := by decide +kernel
theorem dX4_isMark_0 : decode cX4_isMark 0 = .ok (.aload_n 0, 1) := by decide +kernel
theorem dX4_isMark_1 : decode cX4_isMark 1 = .ok (.getfield 75, 3) := by decide +kernel
theorem dX4_isMark_4 : decode cX4_isMark 4 = .ok (.aload_n 0, 1) := by decide +kernel
theorem dX4_isMark_5 : decode cX4_isMark 5 = .ok (.getfield 26, 3) := by decide +kernel
theorem dX4_isMark_8 : decode cX4_isMark 8 = .ok (.if_icmp .ge 20, 3) := by decide +kernel
theorem dX4_isMark_11 : decode cX4_isMark 11 = .ok (.aload_n 0, 1) := by decide +kernel
theorem dX4_isMark_12 : decode cX4_isMark 12 = .ok (.getfield 11, 3) := by decide +kernel
theorem dX4_isMark_15 : decode cX4_isMark 15 = .ok (.aload_n 0, 1) := by decide +kernel
theorem dX4_isMark_16 : decode cX4_isMark 16 = .ok (.getfield 75, 3) := by decide +kernel
theorem dX4_isMark_19 : decode cX4_isMark 19 = .ok (.iaload, 1) := by decide +kernel
theorem dX4_isMark_20 : decode cX4_isMark 20 = .ok (.iload_n 1, 1) := by decide +kernel
theorem dX4_isMark_21 : decode cX4_isMark 21 = .ok (.if_icmp .ne 7, 3) := by decide +kernel
theorem dX4_isMark_24 : decode cX4_isMark 24 = .ok (.iconst 1, 1) := by decide +kernel
theorem dX4_isMark_25 : decode cX4_isMark 25 = .ok (.goto 4, 3) := by decide +kernel
theorem dX4_isMark_28 : decode cX4_isMark 28 = .ok (.iconst 0, 1) := by decide +kernel
theorem dX4_isMark_29 : decode cX4_isMark 29 = .ok (.ireturn, 1) := by decide +kernel
theorem dX4_takes_0 : decode cX4_takes 0 = .ok (.aload_n 0, 1) := by decide +kernel
theorem dX4_takes_1 : decode cX4_takes 1 = .ok (.iload_n 1, 1) := by decide +kernel
theorem dX4_takes_2 : decode cX4_takes 2 = .ok (.invokevirtual 104, 3) := by decide +kernel
theorem dX4_takes_5 : decode cX4_takes 5 = .ok (.ifCond .ne 5, 3) := by decide +kernel
theorem dX4_takes_8 : decode cX4_takes 8 = .ok (.iconst 0, 1) := by decide +kernel
theorem dX4_takes_9 : decode cX4_takes 9 = .ok (.ireturn, 1) := by decide +kernel
theorem dX4_takes_10 : decode cX4_takes 10 = .ok (.aload_n 0, 1) := by decide +kernel
theorem dX4_takes_11 : decode cX4_takes 11 = .ok (.invokevirtual 48, 3) := by decide +kernel
theorem dX4_takes_14 : decode cX4_takes 14 = .ok (.iconst 1, 1) := by decide +kernel
theorem dX4_takes_15 : decode cX4_takes 15 = .ok (.ireturn, 1) := by decide +kernel
theorem dX4_mark_0 : decode cX4_mark 0 = .ok (.aload_n 0, 1) := by decide +kernel
theorem dX4_mark_1 : decode cX4_mark 1 = .ok (.iload_n 1, 1) := by decide +kernel
theorem dX4_mark_2 : decode cX4_mark 2 = .ok (.invokevirtual 108, 3) := by decide +kernel
theorem dX4_mark_5 : decode cX4_mark 5 = .ok (.ifCond .ne 15, 3) := by decide +kernel
theorem dX4_mark_8 : decode cX4_mark 8 = .ok (.aload_n 0, 1) := by decide +kernel
theorem dX4_mark_9 : decode cX4_mark 9 = .ok (.iconst 1, 1) := by decide +kernel
theorem dX4_mark_10 : decode cX4_mark 10 = .ok (.aload_n 0, 1) := by decide +kernel
theorem dX4_mark_11 : decode cX4_mark 11 = .ok (.getfield 75, 3) := by decide +kernel
theorem dX4_mark_14 : decode cX4_mark 14 = .ok (.invokevirtual 100, 3) := by decide +kernel
theorem dX4_mark_17 : decode cX4_mark 17 = .ok (.ifCond .eq 7, 3) := by decide +kernel
theorem dX4_mark_20 : decode cX4_mark 20 = .ok (.iconst 1, 1) := by decide +kernel
theorem dX4_mark_21 : decode cX4_mark 21 = .ok (.goto 4, 3) := by decide +kernel
theorem dX4_mark_24 : decode cX4_mark 24 = .ok (.iconst 0, 1) := by decide +kernel
theorem dX4_mark_25 : decode cX4_mark 25 = .ok (.ireturn, 1) := by decide +kernel
theorem dX4_tapeEnd_0 : decode cX4_tapeEnd 0 = .ok (.aload_n 0, 1) := by decide +kernel
theorem dX4_tapeEnd_1 : decode cX4_tapeEnd 1 = .ok (.getfield 75, 3) := by decide +kernel
theorem dX4_tapeEnd_4 : decode cX4_tapeEnd 4 = .ok (.aload_n 0, 1) := by decide +kernel
theorem dX4_tapeEnd_5 : decode cX4_tapeEnd 5 = .ok (.getfield 26, 3) := by decide +kernel
theorem dX4_tapeEnd_8 : decode cX4_tapeEnd 8 = .ok (.if_icmp .eq 15, 3) := by decide +kernel
theorem dX4_tapeEnd_11 : decode cX4_tapeEnd 11 = .ok (.aload_n 0, 1) := by decide +kernel
theorem dX4_tapeEnd_12 : decode cX4_tapeEnd 12 = .ok (.iconst 1, 1) := by decide +kernel
theorem dX4_tapeEnd_13 : decode cX4_tapeEnd 13 = .ok (.aload_n 0, 1) := by decide +kernel
theorem dX4_tapeEnd_14 : decode cX4_tapeEnd 14 = .ok (.getfield 75, 3) := by decide +kernel
theorem dX4_tapeEnd_17 : decode cX4_tapeEnd 17 = .ok (.invokevirtual 100, 3) := by decide +kernel
theorem dX4_tapeEnd_20 : decode cX4_tapeEnd 20 = .ok (.ifCond .eq 7, 3) := by decide +kernel
theorem dX4_tapeEnd_23 : decode cX4_tapeEnd 23 = .ok (.iconst 1, 1) := by decide +kernel
theorem dX4_tapeEnd_24 : decode cX4_tapeEnd 24 = .ok (.goto 4, 3) := by decide +kernel
theorem dX4_tapeEnd_27 : decode cX4_tapeEnd 27 = .ok (.iconst 0, 1) := by decide +kernel
theorem dX4_tapeEnd_28 : decode cX4_tapeEnd 28 = .ok (.ireturn, 1) := by decide +kernel
theorem dX4_isGiven_0 : decode cX4_isGiven 0 = .ok (.aload_n 0, 1) := by decide +kernel
theorem dX4_isGiven_1 : decode cX4_isGiven 1 = .ok (.getfield 86, 3) := by decide +kernel
theorem dX4_isGiven_4 : decode cX4_isGiven 4 = .ok (.iconst (-1), 1) := by decide +kernel
theorem dX4_isGiven_5 : decode cX4_isGiven 5 = .ok (.if_icmp .ne 13, 3) := by decide +kernel
theorem dX4_isGiven_8 : decode cX4_isGiven 8 = .ok (.aload_n 0, 1) := by decide +kernel
theorem dX4_isGiven_9 : decode cX4_isGiven 9 = .ok (.iconst 1, 1) := by decide +kernel
theorem dX4_isGiven_10 : decode cX4_isGiven 10 = .ok (.aload_n 0, 1) := by decide +kernel
theorem dX4_isGiven_11 : decode cX4_isGiven 11 = .ok (.getfield 75, 3) := by decide +kernel
theorem dX4_isGiven_14 : decode cX4_isGiven 14 = .ok (.invokevirtual 100, 3) := by decide +kernel
theorem dX4_isGiven_17 : decode cX4_isGiven 17 = .ok (.ireturn, 1) := by decide +kernel
theorem dX4_isGiven_18 : decode cX4_isGiven 18 = .ok (.aload_n 0, 1) := by decide +kernel
theorem dX4_isGiven_19 : decode cX4_isGiven 19 = .ok (.getfield 15, 3) := by decide +kernel
theorem dX4_isGiven_22 : decode cX4_isGiven 22 = .ok (.aload_n 0, 1) := by decide +kernel
theorem dX4_isGiven_23 : decode cX4_isGiven 23 = .ok (.getfield 86, 3) := by decide +kernel
theorem dX4_isGiven_26 : decode cX4_isGiven 26 = .ok (.iaload, 1) := by decide +kernel
theorem dX4_isGiven_27 : decode cX4_isGiven 27 = .ok (.iconst (-1), 1) := by decide +kernel
theorem dX4_isGiven_28 : decode cX4_isGiven 28 = .ok (.if_icmp .ne 15, 3) := by decide +kernel
theorem dX4_isGiven_31 : decode cX4_isGiven 31 = .ok (.aload_n 0, 1) := by decide +kernel
theorem dX4_isGiven_32 : decode cX4_isGiven 32 = .ok (.iconst 2, 1) := by decide +kernel
theorem dX4_isGiven_33 : decode cX4_isGiven 33 = .ok (.aload_n 0, 1) := by decide +kernel
theorem dX4_isGiven_34 : decode cX4_isGiven 34 = .ok (.getfield 75, 3) := by decide +kernel
theorem dX4_isGiven_37 : decode cX4_isGiven 37 = .ok (.invokevirtual 100, 3) := by decide +kernel
theorem dX4_isGiven_40 : decode cX4_isGiven 40 = .ok (.ifCond .eq 7, 3) := by decide +kernel
theorem dX4_isGiven_43 : decode cX4_isGiven 43 = .ok (.iconst 1, 1) := by decide +kernel
theorem dX4_isGiven_44 : decode cX4_isGiven 44 = .ok (.goto 4, 3) := by decide +kernel
theorem dX4_isGiven_47 : decode cX4_isGiven 47 = .ok (.iconst 0, 1) := by decide +kernel
theorem dX4_isGiven_48 : decode cX4_isGiven 48 = .ok (.ireturn, 1) := by decide +kernel
theorem dX4_mayGive_0 : decode cX4_mayGive 0 = .ok (.aload_n 0, 1) := by decide +kernel
theorem dX4_mayGive_1 : decode cX4_mayGive 1 = .ok (.getfield 15, 3) := by decide +kernel
theorem dX4_mayGive_4 : decode cX4_mayGive 4 = .ok (.iload_n 1, 1) := by decide +kernel
theorem dX4_mayGive_5 : decode cX4_mayGive 5 = .ok (.iaload, 1) := by decide +kernel
theorem dX4_mayGive_6 : decode cX4_mayGive 6 = .ok (.iconst (-1), 1) := by decide +kernel
theorem dX4_mayGive_7 : decode cX4_mayGive 7 = .ok (.if_icmp .eq 10, 3) := by decide +kernel
theorem dX4_mayGive_10 : decode cX4_mayGive 10 = .ok (.aload_n 0, 1) := by decide +kernel
theorem dX4_mayGive_11 : decode cX4_mayGive 11 = .ok (.iconst 3, 1) := by decide +kernel
theorem dX4_mayGive_12 : decode cX4_mayGive 12 = .ok (.iload_n 2, 1) := by decide +kernel
theorem dX4_mayGive_13 : decode cX4_mayGive 13 = .ok (.invokevirtual 100, 3) := by decide +kernel
theorem dX4_mayGive_16 : decode cX4_mayGive 16 = .ok (.ireturn, 1) := by decide +kernel
theorem dX4_mayGive_17 : decode cX4_mayGive 17 = .ok (.aload_n 0, 1) := by decide +kernel
theorem dX4_mayGive_18 : decode cX4_mayGive 18 = .ok (.getfield 22, 3) := by decide +kernel
theorem dX4_mayGive_21 : decode cX4_mayGive 21 = .ok (.getfield 111, 3) := by decide +kernel
theorem dX4_mayGive_24 : decode cX4_mayGive 24 = .ok (.iload_n 3, 1) := by decide +kernel
theorem dX4_mayGive_25 : decode cX4_mayGive 25 = .ok (.if_icmp .lt 12, 3) := by decide +kernel
theorem dX4_mayGive_28 : decode cX4_mayGive 28 = .ok (.aload_n 0, 1) := by decide +kernel
theorem dX4_mayGive_29 : decode cX4_mayGive 29 = .ok (.iconst 4, 1) := by decide +kernel
theorem dX4_mayGive_30 : decode cX4_mayGive 30 = .ok (.iload_n 2, 1) := by decide +kernel
theorem dX4_mayGive_31 : decode cX4_mayGive 31 = .ok (.invokevirtual 100, 3) := by decide +kernel
theorem dX4_mayGive_34 : decode cX4_mayGive 34 = .ok (.ifCond .eq 7, 3) := by decide +kernel
theorem dX4_mayGive_37 : decode cX4_mayGive 37 = .ok (.iconst 1, 1) := by decide +kernel
theorem dX4_mayGive_38 : decode cX4_mayGive 38 = .ok (.goto 4, 3) := by decide +kernel
theorem dX4_mayGive_41 : decode cX4_mayGive 41 = .ok (.iconst 0, 1) := by decide +kernel
theorem dX4_mayGive_42 : decode cX4_mayGive 42 = .ok (.ireturn, 1) := by decide +kernel
theorem dX4_give_0 : decode cX4_give 0 = .ok (.aload_n 0, 1) := by decide +kernel
theorem dX4_give_1 : decode cX4_give 1 = .ok (.getfield 15, 3) := by decide +kernel
theorem dX4_give_4 : decode cX4_give 4 = .ok (.iload_n 1, 1) := by decide +kernel
theorem dX4_give_5 : decode cX4_give 5 = .ok (.aload_n 0, 1) := by decide +kernel
theorem dX4_give_6 : decode cX4_give 6 = .ok (.getfield 22, 3) := by decide +kernel
theorem dX4_give_9 : decode cX4_give 9 = .ok (.getfield 111, 3) := by decide +kernel
theorem dX4_give_12 : decode cX4_give 12 = .ok (.iastore, 1) := by decide +kernel
theorem dX4_give_13 : decode cX4_give 13 = .ok (.aload_n 0, 1) := by decide +kernel
theorem dX4_give_14 : decode cX4_give 14 = .ok (.getfield 22, 3) := by decide +kernel
theorem dX4_give_17 : decode cX4_give 17 = .ok (.dup, 1) := by decide +kernel
theorem dX4_give_18 : decode cX4_give 18 = .ok (.getfield 111, 3) := by decide +kernel
theorem dX4_give_21 : decode cX4_give 21 = .ok (.iconst 1, 1) := by decide +kernel
theorem dX4_give_22 : decode cX4_give 22 = .ok (.iadd, 1) := by decide +kernel
theorem dX4_give_23 : decode cX4_give 23 = .ok (.putfield 111, 3) := by decide +kernel
theorem dX4_give_26 : decode cX4_give 26 = .ok (.return_, 1) := by decide +kernel
theorem dX4_sourceList_0 : decode cX4_sourceList 0 = .ok (.aload_n 0, 1) := by decide +kernel
theorem dX4_sourceList_1 : decode cX4_sourceList 1 = .ok (.bipush 59, 2) := by decide +kernel
theorem dX4_sourceList_3 : decode cX4_sourceList 3 = .ok (.invokevirtual 108, 3) := by decide +kernel
theorem dX4_sourceList_6 : decode cX4_sourceList 6 = .ok (.ifCond .eq 5, 3) := by decide +kernel
theorem dX4_sourceList_9 : decode cX4_sourceList 9 = .ok (.iconst 1, 1) := by decide +kernel
theorem dX4_sourceList_10 : decode cX4_sourceList 10 = .ok (.ireturn, 1) := by decide +kernel
theorem dX4_sourceList_11 : decode cX4_sourceList 11 = .ok (.iconst 0, 1) := by decide +kernel
theorem dX4_sourceList_12 : decode cX4_sourceList 12 = .ok (.istore_n 2, 1) := by decide +kernel
theorem dX4_sourceList_13 : decode cX4_sourceList 13 = .ok (.iload_n 2, 1) := by decide +kernel
theorem dX4_sourceList_14 : decode cX4_sourceList 14 = .ok (.bipush 10, 2) := by decide +kernel
theorem dX4_sourceList_16 : decode cX4_sourceList 16 = .ok (.if_icmp .gt 35, 3) := by decide +kernel
theorem dX4_sourceList_19 : decode cX4_sourceList 19 = .ok (.aload_n 0, 1) := by decide +kernel
theorem dX4_sourceList_20 : decode cX4_sourceList 20 = .ok (.iload_n 1, 1) := by decide +kernel
theorem dX4_sourceList_21 : decode cX4_sourceList 21 = .ok (.invokevirtual 114, 3) := by decide +kernel
theorem dX4_sourceList_24 : decode cX4_sourceList 24 = .ok (.ifCond .ne 5, 3) := by decide +kernel
theorem dX4_sourceList_27 : decode cX4_sourceList 27 = .ok (.iconst 0, 1) := by decide +kernel
theorem dX4_sourceList_28 : decode cX4_sourceList 28 = .ok (.ireturn, 1) := by decide +kernel
theorem dX4_sourceList_29 : decode cX4_sourceList 29 = .ok (.aload_n 0, 1) := by decide +kernel
theorem dX4_sourceList_30 : decode cX4_sourceList 30 = .ok (.bipush 44, 2) := by decide +kernel
theorem dX4_sourceList_32 : decode cX4_sourceList 32 = .ok (.invokevirtual 108, 3) := by decide +kernel
theorem dX4_sourceList_35 : decode cX4_sourceList 35 = .ok (.ifCond .ne 10, 3) := by decide +kernel
theorem dX4_sourceList_38 : decode cX4_sourceList 38 = .ok (.aload_n 0, 1) := by decide +kernel
theorem dX4_sourceList_39 : decode cX4_sourceList 39 = .ok (.bipush 59, 2) := by decide +kernel
theorem dX4_sourceList_41 : decode cX4_sourceList 41 = .ok (.invokevirtual 117, 3) := by decide +kernel
theorem dX4_sourceList_44 : decode cX4_sourceList 44 = .ok (.ireturn, 1) := by decide +kernel
theorem dX4_sourceList_45 : decode cX4_sourceList 45 = .ok (.iinc 2 1, 3) := by decide +kernel
theorem dX4_sourceList_48 : decode cX4_sourceList 48 = .ok (.goto (-35), 3) := by decide +kernel
theorem dX4_sourceList_51 : decode cX4_sourceList 51 = .ok (.iconst 0, 1) := by decide +kernel
theorem dX4_sourceList_52 : decode cX4_sourceList 52 = .ok (.ireturn, 1) := by decide +kernel
theorem dX4_source_0 : decode cX4_source 0 = .ok (.aload_n 0, 1) := by decide +kernel
theorem dX4_source_1 : decode cX4_source 1 = .ok (.getfield 86, 3) := by decide +kernel
theorem dX4_source_4 : decode cX4_source 4 = .ok (.iconst (-1), 1) := by decide +kernel
theorem dX4_source_5 : decode cX4_source 5 = .ok (.if_icmp .ne 13, 3) := by decide +kernel
theorem dX4_source_8 : decode cX4_source 8 = .ok (.aload_n 0, 1) := by decide +kernel
theorem dX4_source_9 : decode cX4_source 9 = .ok (.iconst 1, 1) := by decide +kernel
theorem dX4_source_10 : decode cX4_source 10 = .ok (.aload_n 0, 1) := by decide +kernel
theorem dX4_source_11 : decode cX4_source 11 = .ok (.getfield 75, 3) := by decide +kernel
theorem dX4_source_14 : decode cX4_source 14 = .ok (.invokevirtual 100, 3) := by decide +kernel
theorem dX4_source_17 : decode cX4_source 17 = .ok (.ireturn, 1) := by decide +kernel
theorem dX4_source_18 : decode cX4_source 18 = .ok (.aload_n 0, 1) := by decide +kernel
theorem dX4_source_19 : decode cX4_source 19 = .ok (.aload_n 0, 1) := by decide +kernel
theorem dX4_source_20 : decode cX4_source 20 = .ok (.getfield 86, 3) := by decide +kernel
theorem dX4_source_23 : decode cX4_source 23 = .ok (.aload_n 0, 1) := by decide +kernel
theorem dX4_source_24 : decode cX4_source 24 = .ok (.getfield 75, 3) := by decide +kernel
theorem dX4_source_27 : decode cX4_source 27 = .ok (.bipush 10, 2) := by decide +kernel
theorem dX4_source_29 : decode cX4_source 29 = .ok (.invokevirtual 120, 3) := by decide +kernel
theorem dX4_source_32 : decode cX4_source 32 = .ok (.ifCond .ne 5, 3) := by decide +kernel
theorem dX4_source_35 : decode cX4_source 35 = .ok (.iconst 0, 1) := by decide +kernel
theorem dX4_source_36 : decode cX4_source 36 = .ok (.ireturn, 1) := by decide +kernel
theorem dX4_source_37 : decode cX4_source 37 = .ok (.aload_n 0, 1) := by decide +kernel
theorem dX4_source_38 : decode cX4_source 38 = .ok (.aload_n 0, 1) := by decide +kernel
theorem dX4_source_39 : decode cX4_source 39 = .ok (.getfield 86, 3) := by decide +kernel
theorem dX4_source_42 : decode cX4_source 42 = .ok (.invokevirtual 124, 3) := by decide +kernel
theorem dX4_source_45 : decode cX4_source 45 = .ok (.iload_n 1, 1) := by decide +kernel
theorem dX4_source_46 : decode cX4_source 46 = .ok (.ifCond .eq 19, 3) := by decide +kernel
theorem dX4_source_49 : decode cX4_source 49 = .ok (.aload_n 0, 1) := by decide +kernel
theorem dX4_source_50 : decode cX4_source 50 = .ok (.getfield 22, 3) := by decide +kernel
theorem dX4_source_53 : decode cX4_source 53 = .ok (.dup, 1) := by decide +kernel
theorem dX4_source_54 : decode cX4_source 54 = .ok (.getfield 128, 3) := by decide +kernel
theorem dX4_source_57 : decode cX4_source 57 = .ok (.iconst 1, 1) := by decide +kernel
theorem dX4_source_58 : decode cX4_source 58 = .ok (.iadd, 1) := by decide +kernel
theorem dX4_source_59 : decode cX4_source 59 = .ok (.putfield 128, 3) := by decide +kernel
theorem dX4_source_62 : decode cX4_source 62 = .ok (.goto 16, 3) := by decide +kernel
theorem dX4_source_65 : decode cX4_source 65 = .ok (.aload_n 0, 1) := by decide +kernel
theorem dX4_source_66 : decode cX4_source 66 = .ok (.getfield 22, 3) := by decide +kernel
theorem dX4_source_69 : decode cX4_source 69 = .ok (.dup, 1) := by decide +kernel
theorem dX4_source_70 : decode cX4_source 70 = .ok (.getfield 131, 3) := by decide +kernel
theorem dX4_source_73 : decode cX4_source 73 = .ok (.iconst 1, 1) := by decide +kernel
theorem dX4_source_74 : decode cX4_source 74 = .ok (.iadd, 1) := by decide +kernel
theorem dX4_source_75 : decode cX4_source 75 = .ok (.putfield 131, 3) := by decide +kernel
theorem dX4_source_78 : decode cX4_source 78 = .ok (.aload_n 0, 1) := by decide +kernel
theorem dX4_source_79 : decode cX4_source 79 = .ok (.invokevirtual 48, 3) := by decide +kernel
theorem dX4_source_82 : decode cX4_source 82 = .ok (.iconst 1, 1) := by decide +kernel
theorem dX4_source_83 : decode cX4_source 83 = .ok (.ireturn, 1) := by decide +kernel
theorem dX4_lines_0 : decode cX4_lines 0 = .ok (.iconst 0, 1) := by decide +kernel
theorem dX4_lines_1 : decode cX4_lines 1 = .ok (.istore_n 1, 1) := by decide +kernel
theorem dX4_lines_2 : decode cX4_lines 2 = .ok (.iload_n 1, 1) := by decide +kernel
theorem dX4_lines_3 : decode cX4_lines 3 = .ok (.sipush 900, 3) := by decide +kernel
theorem dX4_lines_6 : decode cX4_lines 6 = .ok (.if_icmp .ge 87, 3) := by decide +kernel
theorem dX4_lines_9 : decode cX4_lines 9 = .ok (.aload_n 0, 1) := by decide +kernel
theorem dX4_lines_10 : decode cX4_lines 10 = .ok (.ldc 67, 2) := by decide +kernel
theorem dX4_lines_12 : decode cX4_lines 12 = .ok (.invokevirtual 97, 3) := by decide +kernel
theorem dX4_lines_15 : decode cX4_lines 15 = .ok (.ifCond .eq 5, 3) := by decide +kernel
theorem dX4_lines_18 : decode cX4_lines 18 = .ok (.iconst 1, 1) := by decide +kernel
theorem dX4_lines_19 : decode cX4_lines 19 = .ok (.ireturn, 1) := by decide +kernel
theorem dX4_lines_20 : decode cX4_lines 20 = .ok (.aload_n 0, 1) := by decide +kernel
theorem dX4_lines_21 : decode cX4_lines 21 = .ok (.getfield 86, 3) := by decide +kernel
theorem dX4_lines_24 : decode cX4_lines 24 = .ok (.istore_n 2, 1) := by decide +kernel
theorem dX4_lines_25 : decode cX4_lines 25 = .ok (.aload_n 0, 1) := by decide +kernel
theorem dX4_lines_26 : decode cX4_lines 26 = .ok (.getfield 75, 3) := by decide +kernel
theorem dX4_lines_29 : decode cX4_lines 29 = .ok (.istore_n 3, 1) := by decide +kernel
theorem dX4_lines_30 : decode cX4_lines 30 = .ok (.iload_n 2, 1) := by decide +kernel
theorem dX4_lines_31 : decode cX4_lines 31 = .ok (.iconst (-1), 1) := by decide +kernel
theorem dX4_lines_32 : decode cX4_lines 32 = .ok (.if_icmp .ne 13, 3) := by decide +kernel
theorem dX4_lines_35 : decode cX4_lines 35 = .ok (.aload_n 0, 1) := by decide +kernel
theorem dX4_lines_36 : decode cX4_lines 36 = .ok (.iconst 1, 1) := by decide +kernel
theorem dX4_lines_37 : decode cX4_lines 37 = .ok (.aload_n 0, 1) := by decide +kernel
theorem dX4_lines_38 : decode cX4_lines 38 = .ok (.getfield 75, 3) := by decide +kernel
theorem dX4_lines_41 : decode cX4_lines 41 = .ok (.invokevirtual 100, 3) := by decide +kernel
theorem dX4_lines_44 : decode cX4_lines 44 = .ok (.ireturn, 1) := by decide +kernel
theorem dX4_lines_45 : decode cX4_lines 45 = .ok (.aload_n 0, 1) := by decide +kernel
theorem dX4_lines_46 : decode cX4_lines 46 = .ok (.invokevirtual 48, 3) := by decide +kernel
theorem dX4_lines_49 : decode cX4_lines 49 = .ok (.aload_n 0, 1) := by decide +kernel
theorem dX4_lines_50 : decode cX4_lines 50 = .ok (.bipush 61, 2) := by decide +kernel
theorem dX4_lines_52 : decode cX4_lines 52 = .ok (.invokevirtual 104, 3) := by decide +kernel
theorem dX4_lines_55 : decode cX4_lines 55 = .ok (.ifCond .eq 12, 3) := by decide +kernel
theorem dX4_lines_58 : decode cX4_lines 58 = .ok (.aload_n 0, 1) := by decide +kernel
theorem dX4_lines_59 : decode cX4_lines 59 = .ok (.iload_n 2, 1) := by decide +kernel
theorem dX4_lines_60 : decode cX4_lines 60 = .ok (.iload_n 3, 1) := by decide +kernel
theorem dX4_lines_61 : decode cX4_lines 61 = .ok (.invokevirtual 134, 3) := by decide +kernel
theorem dX4_lines_64 : decode cX4_lines 64 = .ok (.goto 14, 3) := by decide +kernel
theorem dX4_lines_67 : decode cX4_lines 67 = .ok (.aload_n 0, 1) := by decide +kernel
theorem dX4_lines_68 : decode cX4_lines 68 = .ok (.aload_n 0, 1) := by decide +kernel
theorem dX4_lines_69 : decode cX4_lines 69 = .ok (.getfield 15, 3) := by decide +kernel
theorem dX4_lines_72 : decode cX4_lines 72 = .ok (.iload_n 2, 1) := by decide +kernel
theorem dX4_lines_73 : decode cX4_lines 73 = .ok (.iaload, 1) := by decide +kernel
theorem dX4_lines_74 : decode cX4_lines 74 = .ok (.iload_n 3, 1) := by decide +kernel
theorem dX4_lines_75 : decode cX4_lines 75 = .ok (.invokevirtual 137, 3) := by decide +kernel
theorem dX4_lines_78 : decode cX4_lines 78 = .ok (.istore 4, 2) := by decide +kernel
theorem dX4_lines_80 : decode cX4_lines 80 = .ok (.iload 4, 2) := by decide +kernel
theorem dX4_lines_82 : decode cX4_lines 82 = .ok (.ifCond .ne 5, 3) := by decide +kernel
theorem dX4_lines_85 : decode cX4_lines 85 = .ok (.iconst 0, 1) := by decide +kernel
theorem dX4_lines_86 : decode cX4_lines 86 = .ok (.ireturn, 1) := by decide +kernel
theorem dX4_lines_87 : decode cX4_lines 87 = .ok (.iinc 1 1, 3) := by decide +kernel
theorem dX4_lines_90 : decode cX4_lines 90 = .ok (.goto (-88), 3) := by decide +kernel
theorem dX4_lines_93 : decode cX4_lines 93 = .ok (.iconst 0, 1) := by decide +kernel
theorem dX4_lines_94 : decode cX4_lines 94 = .ok (.ireturn, 1) := by decide +kernel
theorem dX4_gateLine_0 : decode cX4_gateLine 0 = .ok (.aload_n 0, 1) := by decide +kernel
theorem dX4_gateLine_1 : decode cX4_gateLine 1 = .ok (.iload_n 1, 1) := by decide +kernel
theorem dX4_gateLine_2 : decode cX4_gateLine 2 = .ok (.iload_n 2, 1) := by decide +kernel
theorem dX4_gateLine_3 : decode cX4_gateLine 3 = .ok (.bipush 60, 2) := by decide +kernel
theorem dX4_gateLine_5 : decode cX4_gateLine 5 = .ok (.invokevirtual 120, 3) := by decide +kernel
theorem dX4_gateLine_8 : decode cX4_gateLine 8 = .ok (.ifCond .ne 5, 3) := by decide +kernel
theorem dX4_gateLine_11 : decode cX4_gateLine 11 = .ok (.iconst 0, 1) := by decide +kernel
theorem dX4_gateLine_12 : decode cX4_gateLine 12 = .ok (.ireturn, 1) := by decide +kernel
theorem dX4_gateLine_13 : decode cX4_gateLine 13 = .ok (.aload_n 0, 1) := by decide +kernel
theorem dX4_gateLine_14 : decode cX4_gateLine 14 = .ok (.invokevirtual 48, 3) := by decide +kernel
theorem dX4_gateLine_17 : decode cX4_gateLine 17 = .ok (.aload_n 0, 1) := by decide +kernel
theorem dX4_gateLine_18 : decode cX4_gateLine 18 = .ok (.invokevirtual 140, 3) := by decide +kernel
theorem dX4_gateLine_21 : decode cX4_gateLine 21 = .ok (.istore_n 3, 1) := by decide +kernel
theorem dX4_gateLine_22 : decode cX4_gateLine 22 = .ok (.iload_n 3, 1) := by decide +kernel
theorem dX4_gateLine_23 : decode cX4_gateLine 23 = .ok (.iconst (-1), 1) := by decide +kernel
theorem dX4_gateLine_24 : decode cX4_gateLine 24 = .ok (.if_icmp .ne 5, 3) := by decide +kernel
theorem dX4_gateLine_27 : decode cX4_gateLine 27 = .ok (.iconst 0, 1) := by decide +kernel
theorem dX4_gateLine_28 : decode cX4_gateLine 28 = .ok (.ireturn, 1) := by decide +kernel
theorem dX4_gateLine_29 : decode cX4_gateLine 29 = .ok (.aload_n 0, 1) := by decide +kernel
theorem dX4_gateLine_30 : decode cX4_gateLine 30 = .ok (.invokevirtual 48, 3) := by decide +kernel
theorem dX4_gateLine_33 : decode cX4_gateLine 33 = .ok (.aload_n 0, 1) := by decide +kernel
theorem dX4_gateLine_34 : decode cX4_gateLine 34 = .ok (.bipush 40, 2) := by decide +kernel
theorem dX4_gateLine_36 : decode cX4_gateLine 36 = .ok (.invokevirtual 117, 3) := by decide +kernel
theorem dX4_gateLine_39 : decode cX4_gateLine 39 = .ok (.ifCond .eq 20, 3) := by decide +kernel
theorem dX4_gateLine_42 : decode cX4_gateLine 42 = .ok (.aload_n 0, 1) := by decide +kernel
theorem dX4_gateLine_43 : decode cX4_gateLine 43 = .ok (.iload_n 3, 1) := by decide +kernel
theorem dX4_gateLine_44 : decode cX4_gateLine 44 = .ok (.invokevirtual 143, 3) := by decide +kernel
theorem dX4_gateLine_47 : decode cX4_gateLine 47 = .ok (.ifCond .eq 12, 3) := by decide +kernel
theorem dX4_gateLine_50 : decode cX4_gateLine 50 = .ok (.aload_n 0, 1) := by decide +kernel
theorem dX4_gateLine_51 : decode cX4_gateLine 51 = .ok (.bipush 59, 2) := by decide +kernel
theorem dX4_gateLine_53 : decode cX4_gateLine 53 = .ok (.invokevirtual 117, 3) := by decide +kernel
theorem dX4_gateLine_56 : decode cX4_gateLine 56 = .ok (.ifCond .ne 5, 3) := by decide +kernel
theorem dX4_gateLine_59 : decode cX4_gateLine 59 = .ok (.iconst 0, 1) := by decide +kernel
theorem dX4_gateLine_60 : decode cX4_gateLine 60 = .ok (.ireturn, 1) := by decide +kernel
theorem dX4_gateLine_61 : decode cX4_gateLine 61 = .ok (.aload_n 0, 1) := by decide +kernel
theorem dX4_gateLine_62 : decode cX4_gateLine 62 = .ok (.getfield 22, 3) := by decide +kernel
theorem dX4_gateLine_65 : decode cX4_gateLine 65 = .ok (.getfield 146, 3) := by decide +kernel
theorem dX4_gateLine_68 : decode cX4_gateLine 68 = .ok (.aload_n 0, 1) := by decide +kernel
theorem dX4_gateLine_69 : decode cX4_gateLine 69 = .ok (.getfield 22, 3) := by decide +kernel
theorem dX4_gateLine_72 : decode cX4_gateLine 72 = .ok (.getfield 111, 3) := by decide +kernel
theorem dX4_gateLine_75 : decode cX4_gateLine 75 = .ok (.iload_n 3, 1) := by decide +kernel
theorem dX4_gateLine_76 : decode cX4_gateLine 76 = .ok (.iastore, 1) := by decide +kernel
theorem dX4_gateLine_77 : decode cX4_gateLine 77 = .ok (.aload_n 0, 1) := by decide +kernel
theorem dX4_gateLine_78 : decode cX4_gateLine 78 = .ok (.iload_n 1, 1) := by decide +kernel
theorem dX4_gateLine_79 : decode cX4_gateLine 79 = .ok (.invokevirtual 124, 3) := by decide +kernel
theorem dX4_gateLine_82 : decode cX4_gateLine 82 = .ok (.iconst 1, 1) := by decide +kernel
theorem dX4_gateLine_83 : decode cX4_gateLine 83 = .ok (.ireturn, 1) := by decide +kernel
theorem dX4_operationHere_0 : decode cX4_operationHere 0 = .ok (.aload_n 0, 1) := by decide +kernel
theorem dX4_operationHere_1 : decode cX4_operationHere 1 = .ok (.getfield 75, 3) := by decide +kernel
theorem dX4_operationHere_4 : decode cX4_operationHere 4 = .ok (.aload_n 0, 1) := by decide +kernel
theorem dX4_operationHere_5 : decode cX4_operationHere 5 = .ok (.getfield 26, 3) := by decide +kernel
theorem dX4_operationHere_8 : decode cX4_operationHere 8 = .ok (.if_icmp .ge 31, 3) := by decide +kernel
theorem dX4_operationHere_11 : decode cX4_operationHere 11 = .ok (.aload_n 0, 1) := by decide +kernel
theorem dX4_operationHere_12 : decode cX4_operationHere 12 = .ok (.getfield 11, 3) := by decide +kernel
theorem dX4_operationHere_15 : decode cX4_operationHere 15 = .ok (.aload_n 0, 1) := by decide +kernel
theorem dX4_operationHere_16 : decode cX4_operationHere 16 = .ok (.getfield 75, 3) := by decide +kernel
theorem dX4_operationHere_19 : decode cX4_operationHere 19 = .ok (.iaload, 1) := by decide +kernel
theorem dX4_operationHere_20 : decode cX4_operationHere 20 = .ok (.bipush 97, 2) := by decide +kernel
theorem dX4_operationHere_22 : decode cX4_operationHere 22 = .ok (.if_icmp .lt 17, 3) := by decide +kernel
theorem dX4_operationHere_25 : decode cX4_operationHere 25 = .ok (.aload_n 0, 1) := by decide +kernel
theorem dX4_operationHere_26 : decode cX4_operationHere 26 = .ok (.getfield 11, 3) := by decide +kernel
theorem dX4_operationHere_29 : decode cX4_operationHere 29 = .ok (.aload_n 0, 1) := by decide +kernel
theorem dX4_operationHere_30 : decode cX4_operationHere 30 = .ok (.getfield 75, 3) := by decide +kernel
theorem dX4_operationHere_33 : decode cX4_operationHere 33 = .ok (.iaload, 1) := by decide +kernel
theorem dX4_operationHere_34 : decode cX4_operationHere 34 = .ok (.bipush 122, 2) := by decide +kernel
theorem dX4_operationHere_36 : decode cX4_operationHere 36 = .ok (.if_icmp .le 15, 3) := by decide +kernel
theorem dX4_operationHere_39 : decode cX4_operationHere 39 = .ok (.aload_n 0, 1) := by decide +kernel
theorem dX4_operationHere_40 : decode cX4_operationHere 40 = .ok (.iconst 1, 1) := by decide +kernel
theorem dX4_operationHere_41 : decode cX4_operationHere 41 = .ok (.aload_n 0, 1) := by decide +kernel
theorem dX4_operationHere_42 : decode cX4_operationHere 42 = .ok (.getfield 75, 3) := by decide +kernel
theorem dX4_operationHere_45 : decode cX4_operationHere 45 = .ok (.invokevirtual 100, 3) := by decide +kernel
theorem dX4_operationHere_48 : decode cX4_operationHere 48 = .ok (.pop, 1) := by decide +kernel
theorem dX4_operationHere_49 : decode cX4_operationHere 49 = .ok (.iconst (-1), 1) := by decide +kernel
theorem dX4_operationHere_50 : decode cX4_operationHere 50 = .ok (.ireturn, 1) := by decide +kernel
theorem dX4_operationHere_51 : decode cX4_operationHere 51 = .ok (.iconst 0, 1) := by decide +kernel
theorem dX4_operationHere_52 : decode cX4_operationHere 52 = .ok (.istore_n 1, 1) := by decide +kernel
theorem dX4_operationHere_53 : decode cX4_operationHere 53 = .ok (.iload_n 1, 1) := by decide +kernel
theorem dX4_operationHere_54 : decode cX4_operationHere 54 = .ok (.getstatic 149, 3) := by decide +kernel
theorem dX4_operationHere_57 : decode cX4_operationHere 57 = .ok (.arraylength, 1) := by decide +kernel
theorem dX4_operationHere_58 : decode cX4_operationHere 58 = .ok (.if_icmp .ge 19, 3) := by decide +kernel
theorem dX4_operationHere_61 : decode cX4_operationHere 61 = .ok (.aload_n 0, 1) := by decide +kernel
theorem dX4_operationHere_62 : decode cX4_operationHere 62 = .ok (.iload_n 1, 1) := by decide +kernel
theorem dX4_operationHere_63 : decode cX4_operationHere 63 = .ok (.invokevirtual 152, 3) := by decide +kernel
theorem dX4_operationHere_66 : decode cX4_operationHere 66 = .ok (.ifCond .eq 5, 3) := by decide +kernel
theorem dX4_operationHere_69 : decode cX4_operationHere 69 = .ok (.iload_n 1, 1) := by decide +kernel
theorem dX4_operationHere_70 : decode cX4_operationHere 70 = .ok (.ireturn, 1) := by decide +kernel
theorem dX4_operationHere_71 : decode cX4_operationHere 71 = .ok (.iinc 1 1, 3) := by decide +kernel
theorem dX4_operationHere_74 : decode cX4_operationHere 74 = .ok (.goto (-21), 3) := by decide +kernel
theorem dX4_operationHere_77 : decode cX4_operationHere 77 = .ok (.aload_n 0, 1) := by decide +kernel
theorem dX4_operationHere_78 : decode cX4_operationHere 78 = .ok (.iconst 3, 1) := by decide +kernel
theorem dX4_operationHere_79 : decode cX4_operationHere 79 = .ok (.aload_n 0, 1) := by decide +kernel
theorem dX4_operationHere_80 : decode cX4_operationHere 80 = .ok (.getfield 75, 3) := by decide +kernel
theorem dX4_operationHere_83 : decode cX4_operationHere 83 = .ok (.invokevirtual 100, 3) := by decide +kernel
theorem dX4_operationHere_86 : decode cX4_operationHere 86 = .ok (.pop, 1) := by decide +kernel
theorem dX4_operationHere_87 : decode cX4_operationHere 87 = .ok (.iconst (-1), 1) := by decide +kernel
theorem dX4_operationHere_88 : decode cX4_operationHere 88 = .ok (.ireturn, 1) := by decide +kernel
theorem dX4_isOperation_0 : decode cX4_isOperation 0 = .ok (.aload_n 0, 1) := by decide +kernel
theorem dX4_isOperation_1 : decode cX4_isOperation 1 = .ok (.getfield 45, 3) := by decide +kernel
theorem dX4_isOperation_4 : decode cX4_isOperation 4 = .ok (.aload_n 0, 1) := by decide +kernel
theorem dX4_isOperation_5 : decode cX4_isOperation 5 = .ok (.getfield 75, 3) := by decide +kernel
theorem dX4_isOperation_8 : decode cX4_isOperation 8 = .ok (.isub, 1) := by decide +kernel
theorem dX4_isOperation_9 : decode cX4_isOperation 9 = .ok (.istore_n 2, 1) := by decide +kernel
theorem dX4_isOperation_10 : decode cX4_isOperation 10 = .ok (.iload_n 2, 1) := by decide +kernel
theorem dX4_isOperation_11 : decode cX4_isOperation 11 = .ok (.iconst 4, 1) := by decide +kernel
theorem dX4_isOperation_12 : decode cX4_isOperation 12 = .ok (.if_icmp .le 5, 3) := by decide +kernel
theorem dX4_isOperation_15 : decode cX4_isOperation 15 = .ok (.iconst 0, 1) := by decide +kernel
theorem dX4_isOperation_16 : decode cX4_isOperation 16 = .ok (.ireturn, 1) := by decide +kernel
theorem dX4_isOperation_17 : decode cX4_isOperation 17 = .ok (.iconst 0, 1) := by decide +kernel
theorem dX4_isOperation_18 : decode cX4_isOperation 18 = .ok (.istore_n 3, 1) := by decide +kernel
theorem dX4_isOperation_19 : decode cX4_isOperation 19 = .ok (.iload_n 3, 1) := by decide +kernel
theorem dX4_isOperation_20 : decode cX4_isOperation 20 = .ok (.iconst 4, 1) := by decide +kernel
theorem dX4_isOperation_21 : decode cX4_isOperation 21 = .ok (.if_icmp .ge 49, 3) := by decide +kernel
theorem dX4_isOperation_24 : decode cX4_isOperation 24 = .ok (.iload_n 3, 1) := by decide +kernel
theorem dX4_isOperation_25 : decode cX4_isOperation 25 = .ok (.iload_n 2, 1) := by decide +kernel
theorem dX4_isOperation_26 : decode cX4_isOperation 26 = .ok (.if_icmp .ge 17, 3) := by decide +kernel
theorem dX4_isOperation_29 : decode cX4_isOperation 29 = .ok (.aload_n 0, 1) := by decide +kernel
theorem dX4_isOperation_30 : decode cX4_isOperation 30 = .ok (.getfield 11, 3) := by decide +kernel
theorem dX4_isOperation_33 : decode cX4_isOperation 33 = .ok (.aload_n 0, 1) := by decide +kernel
theorem dX4_isOperation_34 : decode cX4_isOperation 34 = .ok (.getfield 75, 3) := by decide +kernel
theorem dX4_isOperation_37 : decode cX4_isOperation 37 = .ok (.iload_n 3, 1) := by decide +kernel
theorem dX4_isOperation_38 : decode cX4_isOperation 38 = .ok (.iadd, 1) := by decide +kernel
theorem dX4_isOperation_39 : decode cX4_isOperation 39 = .ok (.iaload, 1) := by decide +kernel
theorem dX4_isOperation_40 : decode cX4_isOperation 40 = .ok (.goto 5, 3) := by decide +kernel
theorem dX4_isOperation_43 : decode cX4_isOperation 43 = .ok (.bipush 32, 2) := by decide +kernel
theorem dX4_isOperation_45 : decode cX4_isOperation 45 = .ok (.istore 4, 2) := by decide +kernel
theorem dX4_isOperation_47 : decode cX4_isOperation 47 = .ok (.iload 4, 2) := by decide +kernel
theorem dX4_isOperation_49 : decode cX4_isOperation 49 = .ok (.ldc 155, 2) := by decide +kernel
theorem dX4_isOperation_51 : decode cX4_isOperation 51 = .ok (.iload_n 1, 1) := by decide +kernel
theorem dX4_isOperation_52 : decode cX4_isOperation 52 = .ok (.iconst 4, 1) := by decide +kernel
theorem dX4_isOperation_53 : decode cX4_isOperation 53 = .ok (.imul, 1) := by decide +kernel
theorem dX4_isOperation_54 : decode cX4_isOperation 54 = .ok (.iload_n 3, 1) := by decide +kernel
theorem dX4_isOperation_55 : decode cX4_isOperation 55 = .ok (.iadd, 1) := by decide +kernel
theorem dX4_isOperation_56 : decode cX4_isOperation 56 = .ok (.invokevirtual 93, 3) := by decide +kernel
theorem dX4_isOperation_59 : decode cX4_isOperation 59 = .ok (.if_icmp .eq 5, 3) := by decide +kernel
theorem dX4_isOperation_62 : decode cX4_isOperation 62 = .ok (.iconst 0, 1) := by decide +kernel
theorem dX4_isOperation_63 : decode cX4_isOperation 63 = .ok (.ireturn, 1) := by decide +kernel
theorem dX4_isOperation_64 : decode cX4_isOperation 64 = .ok (.iinc 3 1, 3) := by decide +kernel
theorem dX4_isOperation_67 : decode cX4_isOperation 67 = .ok (.goto (-48), 3) := by decide +kernel
theorem dX4_isOperation_70 : decode cX4_isOperation 70 = .ok (.iconst 1, 1) := by decide +kernel
theorem dX4_isOperation_71 : decode cX4_isOperation 71 = .ok (.ireturn, 1) := by decide +kernel
theorem dX4_lookedList_0 : decode cX4_lookedList 0 = .ok (.getstatic 149, 3) := by decide +kernel
theorem dX4_lookedList_3 : decode cX4_lookedList 3 = .ok (.iload_n 1, 1) := by decide +kernel
theorem dX4_lookedList_4 : decode cX4_lookedList 4 = .ok (.iaload, 1) := by decide +kernel
theorem dX4_lookedList_5 : decode cX4_lookedList 5 = .ok (.istore_n 2, 1) := by decide +kernel
theorem dX4_lookedList_6 : decode cX4_lookedList 6 = .ok (.getstatic 157, 3) := by decide +kernel
theorem dX4_lookedList_9 : decode cX4_lookedList 9 = .ok (.iload_n 1, 1) := by decide +kernel
theorem dX4_lookedList_10 : decode cX4_lookedList 10 = .ok (.iaload, 1) := by decide +kernel
theorem dX4_lookedList_11 : decode cX4_lookedList 11 = .ok (.istore_n 3, 1) := by decide +kernel
theorem dX4_lookedList_12 : decode cX4_lookedList 12 = .ok (.iconst 0, 1) := by decide +kernel
theorem dX4_lookedList_13 : decode cX4_lookedList 13 = .ok (.istore 4, 2) := by decide +kernel
theorem dX4_lookedList_15 : decode cX4_lookedList 15 = .ok (.iload 4, 2) := by decide +kernel
theorem dX4_lookedList_17 : decode cX4_lookedList 17 = .ok (.iconst 4, 1) := by decide +kernel
theorem dX4_lookedList_18 : decode cX4_lookedList 18 = .ok (.if_icmp .gt 149, 3) := by decide +kernel
theorem dX4_lookedList_21 : decode cX4_lookedList 21 = .ok (.aload_n 0, 1) := by decide +kernel
theorem dX4_lookedList_22 : decode cX4_lookedList 22 = .ok (.invokevirtual 160, 3) := by decide +kernel
theorem dX4_lookedList_25 : decode cX4_lookedList 25 = .ok (.ifCond .ne 5, 3) := by decide +kernel
theorem dX4_lookedList_28 : decode cX4_lookedList 28 = .ok (.iconst 0, 1) := by decide +kernel
theorem dX4_lookedList_29 : decode cX4_lookedList 29 = .ok (.ireturn, 1) := by decide +kernel
theorem dX4_lookedList_30 : decode cX4_lookedList 30 = .ok (.iload 4, 2) := by decide +kernel
theorem dX4_lookedList_32 : decode cX4_lookedList 32 = .ok (.iconst 4, 1) := by decide +kernel
theorem dX4_lookedList_33 : decode cX4_lookedList 33 = .ok (.if_icmp .ne 13, 3) := by decide +kernel
theorem dX4_lookedList_36 : decode cX4_lookedList 36 = .ok (.aload_n 0, 1) := by decide +kernel
theorem dX4_lookedList_37 : decode cX4_lookedList 37 = .ok (.iconst 4, 1) := by decide +kernel
theorem dX4_lookedList_38 : decode cX4_lookedList 38 = .ok (.aload_n 0, 1) := by decide +kernel
theorem dX4_lookedList_39 : decode cX4_lookedList 39 = .ok (.getfield 75, 3) := by decide +kernel
theorem dX4_lookedList_42 : decode cX4_lookedList 42 = .ok (.invokevirtual 100, 3) := by decide +kernel
theorem dX4_lookedList_45 : decode cX4_lookedList 45 = .ok (.ireturn, 1) := by decide +kernel
theorem dX4_lookedList_46 : decode cX4_lookedList 46 = .ok (.aload_n 0, 1) := by decide +kernel
theorem dX4_lookedList_47 : decode cX4_lookedList 47 = .ok (.getfield 22, 3) := by decide +kernel
theorem dX4_lookedList_50 : decode cX4_lookedList 50 = .ok (.getfield 163, 3) := by decide +kernel
theorem dX4_lookedList_53 : decode cX4_lookedList 53 = .ok (.aload_n 0, 1) := by decide +kernel
theorem dX4_lookedList_54 : decode cX4_lookedList 54 = .ok (.getfield 22, 3) := by decide +kernel
theorem dX4_lookedList_57 : decode cX4_lookedList 57 = .ok (.getfield 111, 3) := by decide +kernel
theorem dX4_lookedList_60 : decode cX4_lookedList 60 = .ok (.iconst 4, 1) := by decide +kernel
theorem dX4_lookedList_61 : decode cX4_lookedList 61 = .ok (.imul, 1) := by decide +kernel
theorem dX4_lookedList_62 : decode cX4_lookedList 62 = .ok (.iload 4, 2) := by decide +kernel
theorem dX4_lookedList_64 : decode cX4_lookedList 64 = .ok (.iadd, 1) := by decide +kernel
theorem dX4_lookedList_65 : decode cX4_lookedList 65 = .ok (.aload_n 0, 1) := by decide +kernel
theorem dX4_lookedList_66 : decode cX4_lookedList 66 = .ok (.getfield 15, 3) := by decide +kernel
theorem dX4_lookedList_69 : decode cX4_lookedList 69 = .ok (.aload_n 0, 1) := by decide +kernel
theorem dX4_lookedList_70 : decode cX4_lookedList 70 = .ok (.getfield 86, 3) := by decide +kernel
theorem dX4_lookedList_73 : decode cX4_lookedList 73 = .ok (.iaload, 1) := by decide +kernel
theorem dX4_lookedList_74 : decode cX4_lookedList 74 = .ok (.iastore, 1) := by decide +kernel
theorem dX4_lookedList_75 : decode cX4_lookedList 75 = .ok (.aload_n 0, 1) := by decide +kernel
theorem dX4_lookedList_76 : decode cX4_lookedList 76 = .ok (.invokevirtual 48, 3) := by decide +kernel
theorem dX4_lookedList_79 : decode cX4_lookedList 79 = .ok (.iload 4, 2) := by decide +kernel
theorem dX4_lookedList_81 : decode cX4_lookedList 81 = .ok (.iconst 1, 1) := by decide +kernel
theorem dX4_lookedList_82 : decode cX4_lookedList 82 = .ok (.iadd, 1) := by decide +kernel
theorem dX4_lookedList_83 : decode cX4_lookedList 83 = .ok (.istore 5, 2) := by decide +kernel
theorem dX4_lookedList_85 : decode cX4_lookedList 85 = .ok (.iload 5, 2) := by decide +kernel
theorem dX4_lookedList_87 : decode cX4_lookedList 87 = .ok (.iload_n 2, 1) := by decide +kernel
theorem dX4_lookedList_88 : decode cX4_lookedList 88 = .ok (.if_icmp .lt 31, 3) := by decide +kernel
theorem dX4_lookedList_91 : decode cX4_lookedList 91 = .ok (.aload_n 0, 1) := by decide +kernel
theorem dX4_lookedList_92 : decode cX4_lookedList 92 = .ok (.bipush 41, 2) := by decide +kernel
theorem dX4_lookedList_94 : decode cX4_lookedList 94 = .ok (.invokevirtual 108, 3) := by decide +kernel
theorem dX4_lookedList_97 : decode cX4_lookedList 97 = .ok (.ifCond .eq 22, 3) := by decide +kernel
theorem dX4_lookedList_100 : decode cX4_lookedList 100 = .ok (.aload_n 0, 1) := by decide +kernel
theorem dX4_lookedList_101 : decode cX4_lookedList 101 = .ok (.getfield 22, 3) := by decide +kernel
theorem dX4_lookedList_104 : decode cX4_lookedList 104 = .ok (.getfield 166, 3) := by decide +kernel
theorem dX4_lookedList_107 : decode cX4_lookedList 107 = .ok (.aload_n 0, 1) := by decide +kernel
theorem dX4_lookedList_108 : decode cX4_lookedList 108 = .ok (.getfield 22, 3) := by decide +kernel
theorem dX4_lookedList_111 : decode cX4_lookedList 111 = .ok (.getfield 111, 3) := by decide +kernel
theorem dX4_lookedList_114 : decode cX4_lookedList 114 = .ok (.iload 5, 2) := by decide +kernel
theorem dX4_lookedList_116 : decode cX4_lookedList 116 = .ok (.iastore, 1) := by decide +kernel
theorem dX4_lookedList_117 : decode cX4_lookedList 117 = .ok (.iconst 1, 1) := by decide +kernel
theorem dX4_lookedList_118 : decode cX4_lookedList 118 = .ok (.ireturn, 1) := by decide +kernel
theorem dX4_lookedList_119 : decode cX4_lookedList 119 = .ok (.iload 5, 2) := by decide +kernel
theorem dX4_lookedList_121 : decode cX4_lookedList 121 = .ok (.iload_n 3, 1) := by decide +kernel
theorem dX4_lookedList_122 : decode cX4_lookedList 122 = .ok (.if_icmp .lt 8, 3) := by decide +kernel
theorem dX4_lookedList_125 : decode cX4_lookedList 125 = .ok (.iload_n 3, 1) := by decide +kernel
theorem dX4_lookedList_126 : decode cX4_lookedList 126 = .ok (.iconst 4, 1) := by decide +kernel
theorem dX4_lookedList_127 : decode cX4_lookedList 127 = .ok (.if_icmp .ne 7, 3) := by decide +kernel
theorem dX4_lookedList_130 : decode cX4_lookedList 130 = .ok (.iconst 1, 1) := by decide +kernel
theorem dX4_lookedList_131 : decode cX4_lookedList 131 = .ok (.goto 4, 3) := by decide +kernel
theorem dX4_lookedList_134 : decode cX4_lookedList 134 = .ok (.iconst 0, 1) := by decide +kernel
theorem dX4_lookedList_135 : decode cX4_lookedList 135 = .ok (.istore 6, 2) := by decide +kernel
theorem dX4_lookedList_137 : decode cX4_lookedList 137 = .ok (.iload 6, 2) := by decide +kernel
theorem dX4_lookedList_139 : decode cX4_lookedList 139 = .ok (.ifCond .eq 12, 3) := by decide +kernel
theorem dX4_lookedList_142 : decode cX4_lookedList 142 = .ok (.aload_n 0, 1) := by decide +kernel
theorem dX4_lookedList_143 : decode cX4_lookedList 143 = .ok (.bipush 44, 2) := by decide +kernel
theorem dX4_lookedList_145 : decode cX4_lookedList 145 = .ok (.invokevirtual 108, 3) := by decide +kernel
theorem dX4_lookedList_148 : decode cX4_lookedList 148 = .ok (.ifCond .ne 13, 3) := by decide +kernel
theorem dX4_lookedList_151 : decode cX4_lookedList 151 = .ok (.aload_n 0, 1) := by decide +kernel
theorem dX4_lookedList_152 : decode cX4_lookedList 152 = .ok (.iconst 1, 1) := by decide +kernel
theorem dX4_lookedList_153 : decode cX4_lookedList 153 = .ok (.aload_n 0, 1) := by decide +kernel
theorem dX4_lookedList_154 : decode cX4_lookedList 154 = .ok (.getfield 75, 3) := by decide +kernel
theorem dX4_lookedList_157 : decode cX4_lookedList 157 = .ok (.invokevirtual 100, 3) := by decide +kernel
theorem dX4_lookedList_160 : decode cX4_lookedList 160 = .ok (.ireturn, 1) := by decide +kernel
theorem dX4_lookedList_161 : decode cX4_lookedList 161 = .ok (.iinc 4 1, 3) := by decide +kernel
theorem dX4_lookedList_164 : decode cX4_lookedList 164 = .ok (.goto (-149), 3) := by decide +kernel
theorem dX4_lookedList_167 : decode cX4_lookedList 167 = .ok (.iconst 0, 1) := by decide +kernel
theorem dX4_lookedList_168 : decode cX4_lookedList 168 = .ok (.ireturn, 1) := by decide +kernel
theorem dX4_nextLine_0 : decode cX4_nextLine 0 = .ok (.aload_n 0, 1) := by decide +kernel
theorem dX4_nextLine_1 : decode cX4_nextLine 1 = .ok (.bipush 60, 2) := by decide +kernel
theorem dX4_nextLine_3 : decode cX4_nextLine 3 = .ok (.invokevirtual 104, 3) := by decide +kernel
theorem dX4_nextLine_6 : decode cX4_nextLine 6 = .ok (.ifCond .ne 13, 3) := by decide +kernel
theorem dX4_nextLine_9 : decode cX4_nextLine 9 = .ok (.aload_n 0, 1) := by decide +kernel
theorem dX4_nextLine_10 : decode cX4_nextLine 10 = .ok (.iconst 1, 1) := by decide +kernel
theorem dX4_nextLine_11 : decode cX4_nextLine 11 = .ok (.aload_n 0, 1) := by decide +kernel
theorem dX4_nextLine_12 : decode cX4_nextLine 12 = .ok (.getfield 75, 3) := by decide +kernel
theorem dX4_nextLine_15 : decode cX4_nextLine 15 = .ok (.invokevirtual 100, 3) := by decide +kernel
theorem dX4_nextLine_18 : decode cX4_nextLine 18 = .ok (.ireturn, 1) := by decide +kernel
theorem dX4_nextLine_19 : decode cX4_nextLine 19 = .ok (.iload_n 1, 1) := by decide +kernel
theorem dX4_nextLine_20 : decode cX4_nextLine 20 = .ok (.iconst (-1), 1) := by decide +kernel
theorem dX4_nextLine_21 : decode cX4_nextLine 21 = .ok (.if_icmp .eq 14, 3) := by decide +kernel
theorem dX4_nextLine_24 : decode cX4_nextLine 24 = .ok (.aload_n 0, 1) := by decide +kernel
theorem dX4_nextLine_25 : decode cX4_nextLine 25 = .ok (.getfield 22, 3) := by decide +kernel
theorem dX4_nextLine_28 : decode cX4_nextLine 28 = .ok (.iload_n 1, 1) := by decide +kernel
theorem dX4_nextLine_29 : decode cX4_nextLine 29 = .ok (.invokevirtual 169, 3) := by decide +kernel
theorem dX4_nextLine_32 : decode cX4_nextLine 32 = .ok (.ifCond .ne 10, 3) := by decide +kernel
theorem dX4_nextLine_35 : decode cX4_nextLine 35 = .ok (.aload_n 0, 1) := by decide +kernel
theorem dX4_nextLine_36 : decode cX4_nextLine 36 = .ok (.iconst 2, 1) := by decide +kernel
theorem dX4_nextLine_37 : decode cX4_nextLine 37 = .ok (.iload_n 2, 1) := by decide +kernel
theorem dX4_nextLine_38 : decode cX4_nextLine 38 = .ok (.invokevirtual 100, 3) := by decide +kernel
theorem dX4_nextLine_41 : decode cX4_nextLine 41 = .ok (.ireturn, 1) := by decide +kernel
theorem dX4_nextLine_42 : decode cX4_nextLine 42 = .ok (.iload_n 1, 1) := by decide +kernel
theorem dX4_nextLine_43 : decode cX4_nextLine 43 = .ok (.aload_n 0, 1) := by decide +kernel
theorem dX4_nextLine_44 : decode cX4_nextLine 44 = .ok (.getfield 22, 3) := by decide +kernel
theorem dX4_nextLine_47 : decode cX4_nextLine 47 = .ok (.getfield 131, 3) := by decide +kernel
theorem dX4_nextLine_50 : decode cX4_nextLine 50 = .ok (.isub, 1) := by decide +kernel
theorem dX4_nextLine_51 : decode cX4_nextLine 51 = .ok (.istore_n 3, 1) := by decide +kernel
theorem dX4_nextLine_52 : decode cX4_nextLine 52 = .ok (.aload_n 0, 1) := by decide +kernel
theorem dX4_nextLine_53 : decode cX4_nextLine 53 = .ok (.getfield 22, 3) := by decide +kernel
theorem dX4_nextLine_56 : decode cX4_nextLine 56 = .ok (.getfield 172, 3) := by decide +kernel
theorem dX4_nextLine_59 : decode cX4_nextLine 59 = .ok (.iload_n 3, 1) := by decide +kernel
theorem dX4_nextLine_60 : decode cX4_nextLine 60 = .ok (.iaload, 1) := by decide +kernel
theorem dX4_nextLine_61 : decode cX4_nextLine 61 = .ok (.iconst (-1), 1) := by decide +kernel
theorem dX4_nextLine_62 : decode cX4_nextLine 62 = .ok (.if_icmp .eq 10, 3) := by decide +kernel
theorem dX4_nextLine_65 : decode cX4_nextLine 65 = .ok (.aload_n 0, 1) := by decide +kernel
theorem dX4_nextLine_66 : decode cX4_nextLine 66 = .ok (.iconst 3, 1) := by decide +kernel
theorem dX4_nextLine_67 : decode cX4_nextLine 67 = .ok (.iload_n 2, 1) := by decide +kernel
theorem dX4_nextLine_68 : decode cX4_nextLine 68 = .ok (.invokevirtual 100, 3) := by decide +kernel
theorem dX4_nextLine_71 : decode cX4_nextLine 71 = .ok (.ireturn, 1) := by decide +kernel
theorem dX4_nextLine_72 : decode cX4_nextLine 72 = .ok (.aload_n 0, 1) := by decide +kernel
theorem dX4_nextLine_73 : decode cX4_nextLine 73 = .ok (.invokevirtual 48, 3) := by decide +kernel
theorem dX4_nextLine_76 : decode cX4_nextLine 76 = .ok (.aload_n 0, 1) := by decide +kernel
theorem dX4_nextLine_77 : decode cX4_nextLine 77 = .ok (.bipush 45, 2) := by decide +kernel
theorem dX4_nextLine_79 : decode cX4_nextLine 79 = .ok (.invokevirtual 117, 3) := by decide +kernel
theorem dX4_nextLine_82 : decode cX4_nextLine 82 = .ok (.ifCond .eq 10, 3) := by decide +kernel
theorem dX4_nextLine_85 : decode cX4_nextLine 85 = .ok (.aload_n 0, 1) := by decide +kernel
theorem dX4_nextLine_86 : decode cX4_nextLine 86 = .ok (.invokevirtual 160, 3) := by decide +kernel
theorem dX4_nextLine_89 : decode cX4_nextLine 89 = .ok (.ifCond .ne 5, 3) := by decide +kernel
theorem dX4_nextLine_92 : decode cX4_nextLine 92 = .ok (.iconst 0, 1) := by decide +kernel
theorem dX4_nextLine_93 : decode cX4_nextLine 93 = .ok (.ireturn, 1) := by decide +kernel
theorem dX4_nextLine_94 : decode cX4_nextLine 94 = .ok (.aload_n 0, 1) := by decide +kernel
theorem dX4_nextLine_95 : decode cX4_nextLine 95 = .ok (.getfield 22, 3) := by decide +kernel
theorem dX4_nextLine_98 : decode cX4_nextLine 98 = .ok (.getfield 172, 3) := by decide +kernel
theorem dX4_nextLine_101 : decode cX4_nextLine 101 = .ok (.iload_n 3, 1) := by decide +kernel
theorem dX4_nextLine_102 : decode cX4_nextLine 102 = .ok (.aload_n 0, 1) := by decide +kernel
theorem dX4_nextLine_103 : decode cX4_nextLine 103 = .ok (.getfield 15, 3) := by decide +kernel
theorem dX4_nextLine_106 : decode cX4_nextLine 106 = .ok (.aload_n 0, 1) := by decide +kernel
theorem dX4_nextLine_107 : decode cX4_nextLine 107 = .ok (.getfield 86, 3) := by decide +kernel
theorem dX4_nextLine_110 : decode cX4_nextLine 110 = .ok (.iaload, 1) := by decide +kernel
theorem dX4_nextLine_111 : decode cX4_nextLine 111 = .ok (.iastore, 1) := by decide +kernel
theorem dX4_nextLine_112 : decode cX4_nextLine 112 = .ok (.aload_n 0, 1) := by decide +kernel
theorem dX4_nextLine_113 : decode cX4_nextLine 113 = .ok (.invokevirtual 48, 3) := by decide +kernel
theorem dX4_nextLine_116 : decode cX4_nextLine 116 = .ok (.aload_n 0, 1) := by decide +kernel
theorem dX4_nextLine_117 : decode cX4_nextLine 117 = .ok (.bipush 59, 2) := by decide +kernel
theorem dX4_nextLine_119 : decode cX4_nextLine 119 = .ok (.invokevirtual 117, 3) := by decide +kernel
theorem dX4_nextLine_122 : decode cX4_nextLine 122 = .ok (.ireturn, 1) := by decide +kernel
theorem dX4_outputList_0 : decode cX4_outputList 0 = .ok (.aload_n 0, 1) := by decide +kernel
theorem dX4_outputList_1 : decode cX4_outputList 1 = .ok (.bipush 59, 2) := by decide +kernel
theorem dX4_outputList_3 : decode cX4_outputList 3 = .ok (.invokevirtual 108, 3) := by decide +kernel
theorem dX4_outputList_6 : decode cX4_outputList 6 = .ok (.ifCond .eq 5, 3) := by decide +kernel
theorem dX4_outputList_9 : decode cX4_outputList 9 = .ok (.iconst 1, 1) := by decide +kernel
theorem dX4_outputList_10 : decode cX4_outputList 10 = .ok (.ireturn, 1) := by decide +kernel
theorem dX4_outputList_11 : decode cX4_outputList 11 = .ok (.iconst 0, 1) := by decide +kernel
theorem dX4_outputList_12 : decode cX4_outputList 12 = .ok (.istore_n 1, 1) := by decide +kernel
theorem dX4_outputList_13 : decode cX4_outputList 13 = .ok (.iload_n 1, 1) := by decide +kernel
theorem dX4_outputList_14 : decode cX4_outputList 14 = .ok (.bipush 8, 2) := by decide +kernel
theorem dX4_outputList_16 : decode cX4_outputList 16 = .ok (.if_icmp .gt 82, 3) := by decide +kernel
theorem dX4_outputList_19 : decode cX4_outputList 19 = .ok (.aload_n 0, 1) := by decide +kernel
theorem dX4_outputList_20 : decode cX4_outputList 20 = .ok (.invokevirtual 160, 3) := by decide +kernel
theorem dX4_outputList_23 : decode cX4_outputList 23 = .ok (.ifCond .ne 5, 3) := by decide +kernel
theorem dX4_outputList_26 : decode cX4_outputList 26 = .ok (.iconst 0, 1) := by decide +kernel
theorem dX4_outputList_27 : decode cX4_outputList 27 = .ok (.ireturn, 1) := by decide +kernel
theorem dX4_outputList_28 : decode cX4_outputList 28 = .ok (.iload_n 1, 1) := by decide +kernel
theorem dX4_outputList_29 : decode cX4_outputList 29 = .ok (.bipush 8, 2) := by decide +kernel
theorem dX4_outputList_31 : decode cX4_outputList 31 = .ok (.if_icmp .ne 13, 3) := by decide +kernel
theorem dX4_outputList_34 : decode cX4_outputList 34 = .ok (.aload_n 0, 1) := by decide +kernel
theorem dX4_outputList_35 : decode cX4_outputList 35 = .ok (.iconst 4, 1) := by decide +kernel
theorem dX4_outputList_36 : decode cX4_outputList 36 = .ok (.aload_n 0, 1) := by decide +kernel
theorem dX4_outputList_37 : decode cX4_outputList 37 = .ok (.getfield 75, 3) := by decide +kernel
theorem dX4_outputList_40 : decode cX4_outputList 40 = .ok (.invokevirtual 100, 3) := by decide +kernel
theorem dX4_outputList_43 : decode cX4_outputList 43 = .ok (.ireturn, 1) := by decide +kernel
theorem dX4_outputList_44 : decode cX4_outputList 44 = .ok (.aload_n 0, 1) := by decide +kernel
theorem dX4_outputList_45 : decode cX4_outputList 45 = .ok (.getfield 22, 3) := by decide +kernel
theorem dX4_outputList_48 : decode cX4_outputList 48 = .ok (.getfield 175, 3) := by decide +kernel
theorem dX4_outputList_51 : decode cX4_outputList 51 = .ok (.iload_n 1, 1) := by decide +kernel
theorem dX4_outputList_52 : decode cX4_outputList 52 = .ok (.aload_n 0, 1) := by decide +kernel
theorem dX4_outputList_53 : decode cX4_outputList 53 = .ok (.getfield 15, 3) := by decide +kernel
theorem dX4_outputList_56 : decode cX4_outputList 56 = .ok (.aload_n 0, 1) := by decide +kernel
theorem dX4_outputList_57 : decode cX4_outputList 57 = .ok (.getfield 86, 3) := by decide +kernel
theorem dX4_outputList_60 : decode cX4_outputList 60 = .ok (.iaload, 1) := by decide +kernel
theorem dX4_outputList_61 : decode cX4_outputList 61 = .ok (.iastore, 1) := by decide +kernel
theorem dX4_outputList_62 : decode cX4_outputList 62 = .ok (.aload_n 0, 1) := by decide +kernel
theorem dX4_outputList_63 : decode cX4_outputList 63 = .ok (.getfield 22, 3) := by decide +kernel
theorem dX4_outputList_66 : decode cX4_outputList 66 = .ok (.iload_n 1, 1) := by decide +kernel
theorem dX4_outputList_67 : decode cX4_outputList 67 = .ok (.iconst 1, 1) := by decide +kernel
theorem dX4_outputList_68 : decode cX4_outputList 68 = .ok (.iadd, 1) := by decide +kernel
theorem dX4_outputList_69 : decode cX4_outputList 69 = .ok (.putfield 178, 3) := by decide +kernel
theorem dX4_outputList_72 : decode cX4_outputList 72 = .ok (.aload_n 0, 1) := by decide +kernel
theorem dX4_outputList_73 : decode cX4_outputList 73 = .ok (.invokevirtual 48, 3) := by decide +kernel
theorem dX4_outputList_76 : decode cX4_outputList 76 = .ok (.aload_n 0, 1) := by decide +kernel
theorem dX4_outputList_77 : decode cX4_outputList 77 = .ok (.bipush 44, 2) := by decide +kernel
theorem dX4_outputList_79 : decode cX4_outputList 79 = .ok (.invokevirtual 108, 3) := by decide +kernel
theorem dX4_outputList_82 : decode cX4_outputList 82 = .ok (.ifCond .ne 10, 3) := by decide +kernel
theorem dX4_outputList_85 : decode cX4_outputList 85 = .ok (.aload_n 0, 1) := by decide +kernel
theorem dX4_outputList_86 : decode cX4_outputList 86 = .ok (.bipush 59, 2) := by decide +kernel
theorem dX4_outputList_88 : decode cX4_outputList 88 = .ok (.invokevirtual 117, 3) := by decide +kernel
theorem dX4_outputList_91 : decode cX4_outputList 91 = .ok (.ireturn, 1) := by decide +kernel
theorem dX4_outputList_92 : decode cX4_outputList 92 = .ok (.iinc 1 1, 3) := by decide +kernel
theorem dX4_outputList_95 : decode cX4_outputList 95 = .ok (.goto (-82), 3) := by decide +kernel
theorem dX4_outputList_98 : decode cX4_outputList 98 = .ok (.iconst 0, 1) := by decide +kernel
theorem dX4_outputList_99 : decode cX4_outputList 99 = .ok (.ireturn, 1) := by decide +kernel
