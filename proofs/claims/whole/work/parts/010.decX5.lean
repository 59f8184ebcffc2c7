theorem dX5_init_0 : decode cX5_init 0 = .ok (.aload_n 0, 1) := by decide +kernel
theorem dX5_init_1 : decode cX5_init 1 = .ok (.invokespecial 3, 3) := by decide +kernel
theorem dX5_init_4 : decode cX5_init 4 = .ok (.aload_n 0, 1) := by decide +kernel
theorem dX5_init_5 : decode cX5_init 5 = .ok (.iconst (-1), 1) := by decide +kernel
theorem dX5_init_6 : decode cX5_init 6 = .ok (.putfield 9, 3) := by decide +kernel
theorem dX5_init_9 : decode cX5_init 9 = .ok (.aload_n 0, 1) := by decide +kernel
theorem dX5_init_10 : decode cX5_init 10 = .ok (.new 13, 3) := by decide +kernel
theorem dX5_init_13 : decode cX5_init 13 = .ok (.dup, 1) := by decide +kernel
theorem dX5_init_14 : decode cX5_init 14 = .ok (.invokespecial 15, 3) := by decide +kernel
theorem dX5_init_17 : decode cX5_init 17 = .ok (.putfield 16, 3) := by decide +kernel
theorem dX5_init_20 : decode cX5_init 20 = .ok (.aload_n 0, 1) := by decide +kernel
theorem dX5_init_21 : decode cX5_init 21 = .ok (.new 13, 3) := by decide +kernel
theorem dX5_init_24 : decode cX5_init 24 = .ok (.dup, 1) := by decide +kernel
theorem dX5_init_25 : decode cX5_init 25 = .ok (.invokespecial 15, 3) := by decide +kernel
theorem dX5_init_28 : decode cX5_init 28 = .ok (.putfield 20, 3) := by decide +kernel
theorem dX5_init_31 : decode cX5_init 31 = .ok (.aload_n 0, 1) := by decide +kernel
theorem dX5_init_32 : decode cX5_init 32 = .ok (.new 23, 3) := by decide +kernel
theorem dX5_init_35 : decode cX5_init 35 = .ok (.dup, 1) := by decide +kernel
theorem dX5_init_36 : decode cX5_init 36 = .ok (.aload_n 0, 1) := by decide +kernel
theorem dX5_init_37 : decode cX5_init 37 = .ok (.getfield 20, 3) := by decide +kernel
theorem dX5_init_40 : decode cX5_init 40 = .ok (.invokespecial 25, 3) := by decide +kernel
theorem dX5_init_43 : decode cX5_init 43 = .ok (.putfield 28, 3) := by decide +kernel
theorem dX5_init_46 : decode cX5_init 46 = .ok (.aload_n 0, 1) := by decide +kernel
theorem dX5_init_47 : decode cX5_init 47 = .ok (.new 32, 3) := by decide +kernel
theorem dX5_init_50 : decode cX5_init 50 = .ok (.dup, 1) := by decide +kernel
theorem dX5_init_51 : decode cX5_init 51 = .ok (.aload_n 0, 1) := by decide +kernel
theorem dX5_init_52 : decode cX5_init 52 = .ok (.getfield 16, 3) := by decide +kernel
theorem dX5_init_55 : decode cX5_init 55 = .ok (.invokespecial 34, 3) := by decide +kernel
theorem dX5_init_58 : decode cX5_init 58 = .ok (.putfield 35, 3) := by decide +kernel
theorem dX5_init_61 : decode cX5_init 61 = .ok (.aload_n 0, 1) := by decide +kernel
theorem dX5_init_62 : decode cX5_init 62 = .ok (.new 39, 3) := by decide +kernel
theorem dX5_init_65 : decode cX5_init 65 = .ok (.dup, 1) := by decide +kernel
theorem dX5_init_66 : decode cX5_init 66 = .ok (.aload_n 0, 1) := by decide +kernel
theorem dX5_init_67 : decode cX5_init 67 = .ok (.getfield 16, 3) := by decide +kernel
theorem dX5_init_70 : decode cX5_init 70 = .ok (.aload_n 0, 1) := by decide +kernel
theorem dX5_init_71 : decode cX5_init 71 = .ok (.getfield 35, 3) := by decide +kernel
theorem dX5_init_74 : decode cX5_init 74 = .ok (.invokespecial 41, 3) := by decide +kernel
theorem dX5_init_77 : decode cX5_init 77 = .ok (.putfield 44, 3) := by decide +kernel
theorem dX5_init_80 : decode cX5_init 80 = .ok (.aload_n 0, 1) := by decide +kernel
theorem dX5_init_81 : decode cX5_init 81 = .ok (.new 48, 3) := by decide +kernel
theorem dX5_init_84 : decode cX5_init 84 = .ok (.dup, 1) := by decide +kernel
theorem dX5_init_85 : decode cX5_init 85 = .ok (.aload_n 0, 1) := by decide +kernel
theorem dX5_init_86 : decode cX5_init 86 = .ok (.getfield 16, 3) := by decide +kernel
theorem dX5_init_89 : decode cX5_init 89 = .ok (.invokespecial 50, 3) := by decide +kernel
theorem dX5_init_92 : decode cX5_init 92 = .ok (.putfield 51, 3) := by decide +kernel
theorem dX5_init_95 : decode cX5_init 95 = .ok (.return_, 1) := by decide +kernel
theorem dX5_feed_0 : decode cX5_feed 0 = .ok (.iload_n 1, 1) := by decide +kernel
theorem dX5_feed_1 : decode cX5_feed 1 = .ok (.iconst 1, 1) := by decide +kernel
theorem dX5_feed_2 : decode cX5_feed 2 = .ok (.if_icmp .lt 9, 3) := by decide +kernel
theorem dX5_feed_5 : decode cX5_feed 5 = .ok (.iload_n 1, 1) := by decide +kernel
theorem dX5_feed_6 : decode cX5_feed 6 = .ok (.bipush 8, 2) := by decide +kernel
theorem dX5_feed_8 : decode cX5_feed 8 = .ok (.if_icmp .le 11, 3) := by decide +kernel
theorem dX5_feed_11 : decode cX5_feed 11 = .ok (.new 55, 3) := by decide +kernel
theorem dX5_feed_14 : decode cX5_feed 14 = .ok (.dup, 1) := by decide +kernel
theorem dX5_feed_15 : decode cX5_feed 15 = .ok (.invokespecial 57, 3) := by decide +kernel
theorem dX5_feed_18 : decode cX5_feed 18 = .ok (.athrow, 1) := by decide +kernel
theorem dX5_feed_19 : decode cX5_feed 19 = .ok (.aload_n 0, 1) := by decide +kernel
theorem dX5_feed_20 : decode cX5_feed 20 = .ok (.getfield 28, 3) := by decide +kernel
theorem dX5_feed_23 : decode cX5_feed 23 = .ok (.iload_n 1, 1) := by decide +kernel
theorem dX5_feed_24 : decode cX5_feed 24 = .ok (.lload_n 2, 1) := by decide +kernel
theorem dX5_feed_25 : decode cX5_feed 25 = .ok (.invokevirtual 58, 3) := by decide +kernel
theorem dX5_feed_28 : decode cX5_feed 28 = .ok (.ireturn, 1) := by decide +kernel
theorem dX5_wipe_0 : decode cX5_wipe 0 = .ok (.aload_n 0, 1) := by decide +kernel
theorem dX5_wipe_1 : decode cX5_wipe 1 = .ok (.getfield 28, 3) := by decide +kernel
theorem dX5_wipe_4 : decode cX5_wipe 4 = .ok (.invokevirtual 62, 3) := by decide +kernel
theorem dX5_wipe_7 : decode cX5_wipe 7 = .ok (.ireturn, 1) := by decide +kernel
theorem dX5_read_0 : decode cX5_read 0 = .ok (.aload_n 0, 1) := by decide +kernel
theorem dX5_read_1 : decode cX5_read 1 = .ok (.getfield 28, 3) := by decide +kernel
theorem dX5_read_4 : decode cX5_read 4 = .ok (.invokevirtual 66, 3) := by decide +kernel
theorem dX5_read_7 : decode cX5_read 7 = .ok (.ifCond .ne 5, 3) := by decide +kernel
theorem dX5_read_10 : decode cX5_read 10 = .ok (.iconst (-1), 1) := by decide +kernel
theorem dX5_read_11 : decode cX5_read 11 = .ok (.ireturn, 1) := by decide +kernel
theorem dX5_read_12 : decode cX5_read 12 = .ok (.aload_n 0, 1) := by decide +kernel
theorem dX5_read_13 : decode cX5_read 13 = .ok (.getfield 16, 3) := by decide +kernel
theorem dX5_read_16 : decode cX5_read 16 = .ok (.aload_n 0, 1) := by decide +kernel
theorem dX5_read_17 : decode cX5_read 17 = .ok (.getfield 20, 3) := by decide +kernel
theorem dX5_read_20 : decode cX5_read 20 = .ok (.invokevirtual 70, 3) := by decide +kernel
theorem dX5_read_23 : decode cX5_read 23 = .ok (.aload_n 0, 1) := by decide +kernel
theorem dX5_read_24 : decode cX5_read 24 = .ok (.getfield 35, 3) := by decide +kernel
theorem dX5_read_27 : decode cX5_read 27 = .ok (.invokevirtual 73, 3) := by decide +kernel
theorem dX5_read_30 : decode cX5_read 30 = .ok (.aload_n 0, 1) := by decide +kernel
theorem dX5_read_31 : decode cX5_read 31 = .ok (.iconst (-1), 1) := by decide +kernel
theorem dX5_read_32 : decode cX5_read 32 = .ok (.putfield 9, 3) := by decide +kernel
theorem dX5_read_35 : decode cX5_read 35 = .ok (.aload_n 0, 1) := by decide +kernel
theorem dX5_read_36 : decode cX5_read 36 = .ok (.getfield 51, 3) := by decide +kernel
theorem dX5_read_39 : decode cX5_read 39 = .ok (.iconst (-1), 1) := by decide +kernel
theorem dX5_read_40 : decode cX5_read 40 = .ok (.invokevirtual 76, 3) := by decide +kernel
theorem dX5_read_43 : decode cX5_read 43 = .ok (.aload_n 0, 1) := by decide +kernel
theorem dX5_read_44 : decode cX5_read 44 = .ok (.getfield 16, 3) := by decide +kernel
theorem dX5_read_47 : decode cX5_read 47 = .ok (.getfield 80, 3) := by decide +kernel
theorem dX5_read_50 : decode cX5_read 50 = .ok (.ireturn, 1) := by decide +kernel
theorem dX5_fault_0 : decode cX5_fault 0 = .ok (.aload_n 0, 1) := by decide +kernel
theorem dX5_fault_1 : decode cX5_fault 1 = .ok (.getfield 28, 3) := by decide +kernel
theorem dX5_fault_4 : decode cX5_fault 4 = .ok (.getfield 83, 3) := by decide +kernel
theorem dX5_fault_7 : decode cX5_fault 7 = .ok (.ireturn, 1) := by decide +kernel
theorem dX5_place_0 : decode cX5_place 0 = .ok (.aload_n 0, 1) := by decide +kernel
theorem dX5_place_1 : decode cX5_place 1 = .ok (.getfield 28, 3) := by decide +kernel
theorem dX5_place_4 : decode cX5_place 4 = .ok (.getfield 86, 3) := by decide +kernel
theorem dX5_place_7 : decode cX5_place 7 = .ok (.ireturn, 1) := by decide +kernel
theorem dX5_told_0 : decode cX5_told 0 = .ok (.iload_n 1, 1) := by decide +kernel
theorem dX5_told_1 : decode cX5_told 1 = .ok (.tableswitch 108 0 5 #[39, 47, 55, 63, 78, 93], 39) := by decide +kernel
theorem dX5_told_40 : decode cX5_told 40 = .ok (.aload_n 0, 1) := by decide +kernel
theorem dX5_told_41 : decode cX5_told 41 = .ok (.getfield 16, 3) := by decide +kernel
theorem dX5_told_44 : decode cX5_told 44 = .ok (.getfield 89, 3) := by decide +kernel
theorem dX5_told_47 : decode cX5_told 47 = .ok (.ireturn, 1) := by decide +kernel
theorem dX5_told_48 : decode cX5_told 48 = .ok (.aload_n 0, 1) := by decide +kernel
theorem dX5_told_49 : decode cX5_told 49 = .ok (.getfield 16, 3) := by decide +kernel
theorem dX5_told_52 : decode cX5_told 52 = .ok (.getfield 92, 3) := by decide +kernel
theorem dX5_told_55 : decode cX5_told 55 = .ok (.ireturn, 1) := by decide +kernel
theorem dX5_told_56 : decode cX5_told 56 = .ok (.aload_n 0, 1) := by decide +kernel
theorem dX5_told_57 : decode cX5_told 57 = .ok (.getfield 16, 3) := by decide +kernel
theorem dX5_told_60 : decode cX5_told 60 = .ok (.getfield 95, 3) := by decide +kernel
theorem dX5_told_63 : decode cX5_told 63 = .ok (.ireturn, 1) := by decide +kernel
theorem dX5_told_64 : decode cX5_told 64 = .ok (.aload_n 0, 1) := by decide +kernel
theorem dX5_told_65 : decode cX5_told 65 = .ok (.getfield 35, 3) := by decide +kernel
theorem dX5_told_68 : decode cX5_told 68 = .ok (.invokevirtual 98, 3) := by decide +kernel
theorem dX5_told_71 : decode cX5_told 71 = .ok (.aload_n 0, 1) := by decide +kernel
theorem dX5_told_72 : decode cX5_told 72 = .ok (.getfield 35, 3) := by decide +kernel
theorem dX5_told_75 : decode cX5_told 75 = .ok (.getfield 101, 3) := by decide +kernel
theorem dX5_told_78 : decode cX5_told 78 = .ok (.ireturn, 1) := by decide +kernel
theorem dX5_told_79 : decode cX5_told 79 = .ok (.aload_n 0, 1) := by decide +kernel
theorem dX5_told_80 : decode cX5_told 80 = .ok (.getfield 35, 3) := by decide +kernel
theorem dX5_told_83 : decode cX5_told 83 = .ok (.invokevirtual 98, 3) := by decide +kernel
theorem dX5_told_86 : decode cX5_told 86 = .ok (.aload_n 0, 1) := by decide +kernel
theorem dX5_told_87 : decode cX5_told 87 = .ok (.getfield 35, 3) := by decide +kernel
theorem dX5_told_90 : decode cX5_told 90 = .ok (.getfield 104, 3) := by decide +kernel
theorem dX5_told_93 : decode cX5_told 93 = .ok (.ireturn, 1) := by decide +kernel
theorem dX5_told_94 : decode cX5_told 94 = .ok (.aload_n 0, 1) := by decide +kernel
theorem dX5_told_95 : decode cX5_told 95 = .ok (.getfield 35, 3) := by decide +kernel
theorem dX5_told_98 : decode cX5_told 98 = .ok (.invokevirtual 98, 3) := by decide +kernel
theorem dX5_told_101 : decode cX5_told 101 = .ok (.aload_n 0, 1) := by decide +kernel
theorem dX5_told_102 : decode cX5_told 102 = .ok (.getfield 44, 3) := by decide +kernel
theorem dX5_told_105 : decode cX5_told 105 = .ok (.invokevirtual 107, 3) := by decide +kernel
theorem dX5_told_108 : decode cX5_told 108 = .ok (.ireturn, 1) := by decide +kernel
theorem dX5_told_109 : decode cX5_told 109 = .ok (.new 55, 3) := by decide +kernel
theorem dX5_told_112 : decode cX5_told 112 = .ok (.dup, 1) := by decide +kernel
theorem dX5_told_113 : decode cX5_told 113 = .ok (.invokespecial 57, 3) := by decide +kernel
theorem dX5_told_116 : decode cX5_told 116 = .ok (.athrow, 1) := by decide +kernel
theorem dX5_answer_0 : decode cX5_answer 0 = .ok (.iload_n 1, 1) := by decide +kernel
theorem dX5_answer_1 : decode cX5_answer 1 = .ok (.aload_n 0, 1) := by decide +kernel
theorem dX5_answer_2 : decode cX5_answer 2 = .ok (.getfield 16, 3) := by decide +kernel
theorem dX5_answer_5 : decode cX5_answer 5 = .ok (.invokevirtual 110, 3) := by decide +kernel
theorem dX5_answer_8 : decode cX5_answer 8 = .ok (.invokestatic 113, 3) := by decide +kernel
theorem dX5_answer_11 : decode cX5_answer 11 = .ok (.ifCond .eq 11, 3) := by decide +kernel
theorem dX5_answer_14 : decode cX5_answer 14 = .ok (.new 55, 3) := by decide +kernel
theorem dX5_answer_17 : decode cX5_answer 17 = .ok (.dup, 1) := by decide +kernel
theorem dX5_answer_18 : decode cX5_answer 18 = .ok (.invokespecial 57, 3) := by decide +kernel
theorem dX5_answer_21 : decode cX5_answer 21 = .ok (.athrow, 1) := by decide +kernel
theorem dX5_answer_22 : decode cX5_answer 22 = .ok (.aload_n 0, 1) := by decide +kernel
theorem dX5_answer_23 : decode cX5_answer 23 = .ok (.iload_n 2, 1) := by decide +kernel
theorem dX5_answer_24 : decode cX5_answer 24 = .ok (.invokevirtual 117, 3) := by decide +kernel
theorem dX5_answer_27 : decode cX5_answer 27 = .ok (.ifCond .ne 11, 3) := by decide +kernel
theorem dX5_answer_30 : decode cX5_answer 30 = .ok (.new 121, 3) := by decide +kernel
theorem dX5_answer_33 : decode cX5_answer 33 = .ok (.dup, 1) := by decide +kernel
theorem dX5_answer_34 : decode cX5_answer 34 = .ok (.invokespecial 123, 3) := by decide +kernel
theorem dX5_answer_37 : decode cX5_answer 37 = .ok (.athrow, 1) := by decide +kernel
theorem dX5_answer_38 : decode cX5_answer 38 = .ok (.aload_n 0, 1) := by decide +kernel
theorem dX5_answer_39 : decode cX5_answer 39 = .ok (.getfield 16, 3) := by decide +kernel
theorem dX5_answer_42 : decode cX5_answer 42 = .ok (.iload_n 1, 1) := by decide +kernel
theorem dX5_answer_43 : decode cX5_answer 43 = .ok (.iload_n 2, 1) := by decide +kernel
theorem dX5_answer_44 : decode cX5_answer 44 = .ok (.invokevirtual 124, 3) := by decide +kernel
theorem dX5_answer_47 : decode cX5_answer 47 = .ok (.ireturn, 1) := by decide +kernel
theorem dX5_shows_0 : decode cX5_shows 0 = .ok (.aload_n 0, 1) := by decide +kernel
theorem dX5_shows_1 : decode cX5_shows 1 = .ok (.iload_n 1, 1) := by decide +kernel
theorem dX5_shows_2 : decode cX5_shows 2 = .ok (.invokevirtual 128, 3) := by decide +kernel
theorem dX5_shows_5 : decode cX5_shows 5 = .ok (.ifCond .ne 11, 3) := by decide +kernel
theorem dX5_shows_8 : decode cX5_shows 8 = .ok (.new 121, 3) := by decide +kernel
theorem dX5_shows_11 : decode cX5_shows 11 = .ok (.dup, 1) := by decide +kernel
theorem dX5_shows_12 : decode cX5_shows 12 = .ok (.invokespecial 123, 3) := by decide +kernel
theorem dX5_shows_15 : decode cX5_shows 15 = .ok (.athrow, 1) := by decide +kernel
theorem dX5_shows_16 : decode cX5_shows 16 = .ok (.aload_n 0, 1) := by decide +kernel
theorem dX5_shows_17 : decode cX5_shows 17 = .ok (.getfield 35, 3) := by decide +kernel
theorem dX5_shows_20 : decode cX5_shows 20 = .ok (.invokevirtual 98, 3) := by decide +kernel
theorem dX5_shows_23 : decode cX5_shows 23 = .ok (.iload_n 2, 1) := by decide +kernel
theorem dX5_shows_24 : decode cX5_shows 24 = .ok (.tableswitch 68 0 3 #[32, 41, 50, 59], 32) := by decide +kernel
theorem dX5_shows_56 : decode cX5_shows 56 = .ok (.aload_n 0, 1) := by decide +kernel
theorem dX5_shows_57 : decode cX5_shows 57 = .ok (.getfield 35, 3) := by decide +kernel
theorem dX5_shows_60 : decode cX5_shows 60 = .ok (.iload_n 1, 1) := by decide +kernel
theorem dX5_shows_61 : decode cX5_shows 61 = .ok (.invokevirtual 131, 3) := by decide +kernel
theorem dX5_shows_64 : decode cX5_shows 64 = .ok (.ireturn, 1) := by decide +kernel
theorem dX5_shows_65 : decode cX5_shows 65 = .ok (.aload_n 0, 1) := by decide +kernel
theorem dX5_shows_66 : decode cX5_shows 66 = .ok (.getfield 35, 3) := by decide +kernel
theorem dX5_shows_69 : decode cX5_shows 69 = .ok (.iload_n 1, 1) := by decide +kernel
theorem dX5_shows_70 : decode cX5_shows 70 = .ok (.invokevirtual 135, 3) := by decide +kernel
theorem dX5_shows_73 : decode cX5_shows 73 = .ok (.ireturn, 1) := by decide +kernel
theorem dX5_shows_74 : decode cX5_shows 74 = .ok (.aload_n 0, 1) := by decide +kernel
theorem dX5_shows_75 : decode cX5_shows 75 = .ok (.getfield 35, 3) := by decide +kernel
theorem dX5_shows_78 : decode cX5_shows 78 = .ok (.iload_n 1, 1) := by decide +kernel
theorem dX5_shows_79 : decode cX5_shows 79 = .ok (.invokevirtual 138, 3) := by decide +kernel
theorem dX5_shows_82 : decode cX5_shows 82 = .ok (.ireturn, 1) := by decide +kernel
theorem dX5_shows_83 : decode cX5_shows 83 = .ok (.aload_n 0, 1) := by decide +kernel
theorem dX5_shows_84 : decode cX5_shows 84 = .ok (.getfield 35, 3) := by decide +kernel
theorem dX5_shows_87 : decode cX5_shows 87 = .ok (.iload_n 1, 1) := by decide +kernel
theorem dX5_shows_88 : decode cX5_shows 88 = .ok (.invokevirtual 141, 3) := by decide +kernel
theorem dX5_shows_91 : decode cX5_shows 91 = .ok (.ireturn, 1) := by decide +kernel
theorem dX5_shows_92 : decode cX5_shows 92 = .ok (.new 55, 3) := by decide +kernel
theorem dX5_shows_95 : decode cX5_shows 95 = .ok (.dup, 1) := by decide +kernel
theorem dX5_shows_96 : decode cX5_shows 96 = .ok (.invokespecial 57, 3) := by decide +kernel
theorem dX5_shows_99 : decode cX5_shows 99 = .ok (.athrow, 1) := by decide +kernel
theorem dX5_test_0 : decode cX5_test 0 = .ok (.aload_n 0, 1) := by decide +kernel
theorem dX5_test_1 : decode cX5_test 1 = .ok (.getfield 35, 3) := by decide +kernel
theorem dX5_test_4 : decode cX5_test 4 = .ok (.invokevirtual 98, 3) := by decide +kernel
theorem dX5_test_7 : decode cX5_test 7 = .ok (.iload_n 1, 1) := by decide +kernel
theorem dX5_test_8 : decode cX5_test 8 = .ok (.ifCond .lt 14, 3) := by decide +kernel
theorem dX5_test_11 : decode cX5_test 11 = .ok (.iload_n 1, 1) := by decide +kernel
theorem dX5_test_12 : decode cX5_test 12 = .ok (.aload_n 0, 1) := by decide +kernel
theorem dX5_test_13 : decode cX5_test 13 = .ok (.getfield 35, 3) := by decide +kernel
theorem dX5_test_16 : decode cX5_test 16 = .ok (.getfield 104, 3) := by decide +kernel
theorem dX5_test_19 : decode cX5_test 19 = .ok (.if_icmp .lt 11, 3) := by decide +kernel
theorem dX5_test_22 : decode cX5_test 22 = .ok (.new 121, 3) := by decide +kernel
theorem dX5_test_25 : decode cX5_test 25 = .ok (.dup, 1) := by decide +kernel
theorem dX5_test_26 : decode cX5_test 26 = .ok (.invokespecial 123, 3) := by decide +kernel
theorem dX5_test_29 : decode cX5_test 29 = .ok (.athrow, 1) := by decide +kernel
theorem dX5_test_30 : decode cX5_test 30 = .ok (.aload_n 0, 1) := by decide +kernel
theorem dX5_test_31 : decode cX5_test 31 = .ok (.getfield 35, 3) := by decide +kernel
theorem dX5_test_34 : decode cX5_test 34 = .ok (.getfield 144, 3) := by decide +kernel
theorem dX5_test_37 : decode cX5_test 37 = .ok (.iload_n 1, 1) := by decide +kernel
theorem dX5_test_38 : decode cX5_test 38 = .ok (.iaload, 1) := by decide +kernel
theorem dX5_test_39 : decode cX5_test 39 = .ok (.ireturn, 1) := by decide +kernel
theorem dX5_row_0 : decode cX5_row 0 = .ok (.aload_n 0, 1) := by decide +kernel
theorem dX5_row_1 : decode cX5_row 1 = .ok (.getfield 35, 3) := by decide +kernel
theorem dX5_row_4 : decode cX5_row 4 = .ok (.invokevirtual 98, 3) := by decide +kernel
theorem dX5_row_7 : decode cX5_row 7 = .ok (.iload_n 1, 1) := by decide +kernel
theorem dX5_row_8 : decode cX5_row 8 = .ok (.ifCond .lt 14, 3) := by decide +kernel
theorem dX5_row_11 : decode cX5_row 11 = .ok (.iload_n 1, 1) := by decide +kernel
theorem dX5_row_12 : decode cX5_row 12 = .ok (.aload_n 0, 1) := by decide +kernel
theorem dX5_row_13 : decode cX5_row 13 = .ok (.getfield 44, 3) := by decide +kernel
theorem dX5_row_16 : decode cX5_row 16 = .ok (.invokevirtual 107, 3) := by decide +kernel
theorem dX5_row_19 : decode cX5_row 19 = .ok (.if_icmp .lt 11, 3) := by decide +kernel
theorem dX5_row_22 : decode cX5_row 22 = .ok (.new 121, 3) := by decide +kernel
theorem dX5_row_25 : decode cX5_row 25 = .ok (.dup, 1) := by decide +kernel
theorem dX5_row_26 : decode cX5_row 26 = .ok (.invokespecial 123, 3) := by decide +kernel
theorem dX5_row_29 : decode cX5_row 29 = .ok (.athrow, 1) := by decide +kernel
theorem dX5_row_30 : decode cX5_row 30 = .ok (.iload_n 2, 1) := by decide +kernel
theorem dX5_row_31 : decode cX5_row 31 = .ok (.tableswitch 78 0 4 #[33, 42, 51, 60, 69], 33) := by decide +kernel
theorem dX5_row_64 : decode cX5_row 64 = .ok (.aload_n 0, 1) := by decide +kernel
theorem dX5_row_65 : decode cX5_row 65 = .ok (.getfield 44, 3) := by decide +kernel
theorem dX5_row_68 : decode cX5_row 68 = .ok (.iload_n 1, 1) := by decide +kernel
theorem dX5_row_69 : decode cX5_row 69 = .ok (.invokevirtual 148, 3) := by decide +kernel
theorem dX5_row_72 : decode cX5_row 72 = .ok (.ireturn, 1) := by decide +kernel
theorem dX5_row_73 : decode cX5_row 73 = .ok (.aload_n 0, 1) := by decide +kernel
theorem dX5_row_74 : decode cX5_row 74 = .ok (.getfield 44, 3) := by decide +kernel
theorem dX5_row_77 : decode cX5_row 77 = .ok (.iload_n 1, 1) := by decide +kernel
theorem dX5_row_78 : decode cX5_row 78 = .ok (.invokevirtual 151, 3) := by decide +kernel
theorem dX5_row_81 : decode cX5_row 81 = .ok (.ireturn, 1) := by decide +kernel
theorem dX5_row_82 : decode cX5_row 82 = .ok (.aload_n 0, 1) := by decide +kernel
theorem dX5_row_83 : decode cX5_row 83 = .ok (.getfield 44, 3) := by decide +kernel
theorem dX5_row_86 : decode cX5_row 86 = .ok (.iload_n 1, 1) := by decide +kernel
theorem dX5_row_87 : decode cX5_row 87 = .ok (.invokevirtual 154, 3) := by decide +kernel
theorem dX5_row_90 : decode cX5_row 90 = .ok (.ireturn, 1) := by decide +kernel
theorem dX5_row_91 : decode cX5_row 91 = .ok (.aload_n 0, 1) := by decide +kernel
theorem dX5_row_92 : decode cX5_row 92 = .ok (.getfield 44, 3) := by decide +kernel
theorem dX5_row_95 : decode cX5_row 95 = .ok (.iload_n 1, 1) := by decide +kernel
theorem dX5_row_96 : decode cX5_row 96 = .ok (.invokevirtual 156, 3) := by decide +kernel
theorem dX5_row_99 : decode cX5_row 99 = .ok (.ireturn, 1) := by decide +kernel
theorem dX5_row_100 : decode cX5_row 100 = .ok (.aload_n 0, 1) := by decide +kernel
theorem dX5_row_101 : decode cX5_row 101 = .ok (.getfield 44, 3) := by decide +kernel
theorem dX5_row_104 : decode cX5_row 104 = .ok (.iload_n 1, 1) := by decide +kernel
theorem dX5_row_105 : decode cX5_row 105 = .ok (.invokevirtual 159, 3) := by decide +kernel
theorem dX5_row_108 : decode cX5_row 108 = .ok (.ireturn, 1) := by decide +kernel
theorem dX5_row_109 : decode cX5_row 109 = .ok (.new 55, 3) := by decide +kernel
theorem dX5_row_112 : decode cX5_row 112 = .ok (.dup, 1) := by decide +kernel
theorem dX5_row_113 : decode cX5_row 113 = .ok (.invokespecial 57, 3) := by decide +kernel
theorem dX5_row_116 : decode cX5_row 116 = .ok (.athrow, 1) := by decide +kernel
theorem dX5_fails_0 : decode cX5_fails 0 = .ok (.aload_n 0, 1) := by decide +kernel
theorem dX5_fails_1 : decode cX5_fails 1 = .ok (.iload_n 1, 1) := by decide +kernel
theorem dX5_fails_2 : decode cX5_fails 2 = .ok (.invokevirtual 117, 3) := by decide +kernel
theorem dX5_fails_5 : decode cX5_fails 5 = .ok (.ifCond .ne 11, 3) := by decide +kernel
theorem dX5_fails_8 : decode cX5_fails 8 = .ok (.new 121, 3) := by decide +kernel
theorem dX5_fails_11 : decode cX5_fails 11 = .ok (.dup, 1) := by decide +kernel
theorem dX5_fails_12 : decode cX5_fails 12 = .ok (.invokespecial 123, 3) := by decide +kernel
theorem dX5_fails_15 : decode cX5_fails 15 = .ok (.athrow, 1) := by decide +kernel
theorem dX5_fails_16 : decode cX5_fails 16 = .ok (.aload_n 0, 1) := by decide +kernel
theorem dX5_fails_17 : decode cX5_fails 17 = .ok (.getfield 35, 3) := by decide +kernel
theorem dX5_fails_20 : decode cX5_fails 20 = .ok (.invokevirtual 98, 3) := by decide +kernel
theorem dX5_fails_23 : decode cX5_fails 23 = .ok (.aload_n 0, 1) := by decide +kernel
theorem dX5_fails_24 : decode cX5_fails 24 = .ok (.getfield 44, 3) := by decide +kernel
theorem dX5_fails_27 : decode cX5_fails 27 = .ok (.iload_n 1, 1) := by decide +kernel
theorem dX5_fails_28 : decode cX5_fails 28 = .ok (.invokevirtual 162, 3) := by decide +kernel
theorem dX5_fails_31 : decode cX5_fails 31 = .ok (.ireturn, 1) := by decide +kernel
theorem dX5_escapes_0 : decode cX5_escapes 0 = .ok (.aload_n 0, 1) := by decide +kernel
theorem dX5_escapes_1 : decode cX5_escapes 1 = .ok (.getfield 9, 3) := by decide +kernel
theorem dX5_escapes_4 : decode cX5_escapes 4 = .ok (.iconst (-1), 1) := by decide +kernel
theorem dX5_escapes_5 : decode cX5_escapes 5 = .ok (.if_icmp .ne 69, 3) := by decide +kernel
theorem dX5_escapes_8 : decode cX5_escapes 8 = .ok (.aload_n 0, 1) := by decide +kernel
theorem dX5_escapes_9 : decode cX5_escapes 9 = .ok (.getfield 35, 3) := by decide +kernel
theorem dX5_escapes_12 : decode cX5_escapes 12 = .ok (.invokevirtual 98, 3) := by decide +kernel
theorem dX5_escapes_15 : decode cX5_escapes 15 = .ok (.aload_n 0, 1) := by decide +kernel
theorem dX5_escapes_16 : decode cX5_escapes 16 = .ok (.iconst 0, 1) := by decide +kernel
theorem dX5_escapes_17 : decode cX5_escapes 17 = .ok (.putfield 9, 3) := by decide +kernel
theorem dX5_escapes_20 : decode cX5_escapes 20 = .ok (.iconst 0, 1) := by decide +kernel
theorem dX5_escapes_21 : decode cX5_escapes 21 = .ok (.istore_n 1, 1) := by decide +kernel
theorem dX5_escapes_22 : decode cX5_escapes 22 = .ok (.iload_n 1, 1) := by decide +kernel
theorem dX5_escapes_23 : decode cX5_escapes 23 = .ok (.iconst 2, 1) := by decide +kernel
theorem dX5_escapes_24 : decode cX5_escapes 24 = .ok (.aload_n 0, 1) := by decide +kernel
theorem dX5_escapes_25 : decode cX5_escapes 25 = .ok (.getfield 16, 3) := by decide +kernel
theorem dX5_escapes_28 : decode cX5_escapes 28 = .ok (.getfield 80, 3) := by decide +kernel
theorem dX5_escapes_31 : decode cX5_escapes 31 = .ok (.imul, 1) := by decide +kernel
theorem dX5_escapes_32 : decode cX5_escapes 32 = .ok (.if_icmp .ge 42, 3) := by decide +kernel
theorem dX5_escapes_35 : decode cX5_escapes 35 = .ok (.aload_n 0, 1) := by decide +kernel
theorem dX5_escapes_36 : decode cX5_escapes 36 = .ok (.getfield 35, 3) := by decide +kernel
theorem dX5_escapes_39 : decode cX5_escapes 39 = .ok (.iload_n 1, 1) := by decide +kernel
theorem dX5_escapes_40 : decode cX5_escapes 40 = .ok (.invokevirtual 165, 3) := by decide +kernel
theorem dX5_escapes_43 : decode cX5_escapes 43 = .ok (.ifCond .eq 25, 3) := by decide +kernel
theorem dX5_escapes_46 : decode cX5_escapes 46 = .ok (.aload_n 0, 1) := by decide +kernel
theorem dX5_escapes_47 : decode cX5_escapes 47 = .ok (.getfield 44, 3) := by decide +kernel
theorem dX5_escapes_50 : decode cX5_escapes 50 = .ok (.iload_n 1, 1) := by decide +kernel
theorem dX5_escapes_51 : decode cX5_escapes 51 = .ok (.invokevirtual 162, 3) := by decide +kernel
theorem dX5_escapes_54 : decode cX5_escapes 54 = .ok (.iconst (-1), 1) := by decide +kernel
theorem dX5_escapes_55 : decode cX5_escapes 55 = .ok (.if_icmp .ne 13, 3) := by decide +kernel
theorem dX5_escapes_58 : decode cX5_escapes 58 = .ok (.aload_n 0, 1) := by decide +kernel
theorem dX5_escapes_59 : decode cX5_escapes 59 = .ok (.dup, 1) := by decide +kernel
theorem dX5_escapes_60 : decode cX5_escapes 60 = .ok (.getfield 9, 3) := by decide +kernel
theorem dX5_escapes_63 : decode cX5_escapes 63 = .ok (.iconst 1, 1) := by decide +kernel
theorem dX5_escapes_64 : decode cX5_escapes 64 = .ok (.iadd, 1) := by decide +kernel
theorem dX5_escapes_65 : decode cX5_escapes 65 = .ok (.putfield 9, 3) := by decide +kernel
theorem dX5_escapes_68 : decode cX5_escapes 68 = .ok (.iinc 1 1, 3) := by decide +kernel
theorem dX5_escapes_71 : decode cX5_escapes 71 = .ok (.goto (-49), 3) := by decide +kernel
theorem dX5_escapes_74 : decode cX5_escapes 74 = .ok (.aload_n 0, 1) := by decide +kernel
theorem dX5_escapes_75 : decode cX5_escapes 75 = .ok (.getfield 9, 3) := by decide +kernel
theorem dX5_escapes_78 : decode cX5_escapes 78 = .ok (.ireturn, 1) := by decide +kernel
theorem dX5_chip_0 : decode cX5_chip 0 = .ok (.aload_n 0, 1) := by decide +kernel
theorem dX5_chip_1 : decode cX5_chip 1 = .ok (.iload_n 1, 1) := by decide +kernel
theorem dX5_chip_2 : decode cX5_chip 2 = .ok (.invokevirtual 117, 3) := by decide +kernel
theorem dX5_chip_5 : decode cX5_chip 5 = .ok (.ifCond .ne 11, 3) := by decide +kernel
theorem dX5_chip_8 : decode cX5_chip 8 = .ok (.new 121, 3) := by decide +kernel
theorem dX5_chip_11 : decode cX5_chip 11 = .ok (.dup, 1) := by decide +kernel
theorem dX5_chip_12 : decode cX5_chip 12 = .ok (.invokespecial 123, 3) := by decide +kernel
theorem dX5_chip_15 : decode cX5_chip 15 = .ok (.athrow, 1) := by decide +kernel
theorem dX5_chip_16 : decode cX5_chip 16 = .ok (.aload_n 0, 1) := by decide +kernel
theorem dX5_chip_17 : decode cX5_chip 17 = .ok (.getfield 51, 3) := by decide +kernel
theorem dX5_chip_20 : decode cX5_chip 20 = .ok (.iload_n 1, 1) := by decide +kernel
theorem dX5_chip_21 : decode cX5_chip 21 = .ok (.invokevirtual 76, 3) := by decide +kernel
theorem dX5_chip_24 : decode cX5_chip 24 = .ok (.return_, 1) := by decide +kernel
theorem dX5_clock_0 : decode cX5_clock 0 = .ok (.iload_n 3, 1) := by decide +kernel
theorem dX5_clock_1 : decode cX5_clock 1 = .ok (.aload_n 0, 1) := by decide +kernel
theorem dX5_clock_2 : decode cX5_clock 2 = .ok (.getfield 16, 3) := by decide +kernel
theorem dX5_clock_5 : decode cX5_clock 5 = .ok (.getfield 89, 3) := by decide +kernel
theorem dX5_clock_8 : decode cX5_clock 8 = .ok (.invokestatic 113, 3) := by decide +kernel
theorem dX5_clock_11 : decode cX5_clock 11 = .ok (.ifCond .eq 11, 3) := by decide +kernel
theorem dX5_clock_14 : decode cX5_clock 14 = .ok (.new 55, 3) := by decide +kernel
theorem dX5_clock_17 : decode cX5_clock 17 = .ok (.dup, 1) := by decide +kernel
theorem dX5_clock_18 : decode cX5_clock 18 = .ok (.invokespecial 57, 3) := by decide +kernel
theorem dX5_clock_21 : decode cX5_clock 21 = .ok (.athrow, 1) := by decide +kernel
theorem dX5_clock_22 : decode cX5_clock 22 = .ok (.iload_n 2, 1) := by decide +kernel
theorem dX5_clock_23 : decode cX5_clock 23 = .ok (.ifCond .eq 7, 3) := by decide +kernel
theorem dX5_clock_26 : decode cX5_clock 26 = .ok (.iconst 1, 1) := by decide +kernel
theorem dX5_clock_27 : decode cX5_clock 27 = .ok (.goto 4, 3) := by decide +kernel
theorem dX5_clock_30 : decode cX5_clock 30 = .ok (.iconst 0, 1) := by decide +kernel
theorem dX5_clock_31 : decode cX5_clock 31 = .ok (.istore 4, 2) := by decide +kernel
theorem dX5_clock_33 : decode cX5_clock 33 = .ok (.aload_n 0, 1) := by decide +kernel
theorem dX5_clock_34 : decode cX5_clock 34 = .ok (.getfield 51, 3) := by decide +kernel
theorem dX5_clock_37 : decode cX5_clock 37 = .ok (.iload_n 3, 1) := by decide +kernel
theorem dX5_clock_38 : decode cX5_clock 38 = .ok (.invokevirtual 168, 3) := by decide +kernel
theorem dX5_clock_41 : decode cX5_clock 41 = .ok (.aload_n 0, 1) := by decide +kernel
theorem dX5_clock_42 : decode cX5_clock 42 = .ok (.getfield 51, 3) := by decide +kernel
theorem dX5_clock_45 : decode cX5_clock 45 = .ok (.iload 4, 2) := by decide +kernel
theorem dX5_clock_47 : decode cX5_clock 47 = .ok (.invokevirtual 170, 3) := by decide +kernel
theorem dX5_clock_50 : decode cX5_clock 50 = .ok (.iconst 1, 1) := by decide +kernel
theorem dX5_clock_51 : decode cX5_clock 51 = .ok (.if_icmp .ne 9, 3) := by decide +kernel
theorem dX5_clock_54 : decode cX5_clock 54 = .ok (.sipush 256, 3) := by decide +kernel
theorem dX5_clock_57 : decode cX5_clock 57 = .ok (.goto 4, 3) := by decide +kernel
theorem dX5_clock_60 : decode cX5_clock 60 = .ok (.iconst 0, 1) := by decide +kernel
theorem dX5_clock_61 : decode cX5_clock 61 = .ok (.ior, 1) := by decide +kernel
theorem dX5_clock_62 : decode cX5_clock 62 = .ok (.istore 5, 2) := by decide +kernel
theorem dX5_clock_64 : decode cX5_clock 64 = .ok (.aload_n 0, 1) := by decide +kernel
theorem dX5_clock_65 : decode cX5_clock 65 = .ok (.getfield 51, 3) := by decide +kernel
theorem dX5_clock_68 : decode cX5_clock 68 = .ok (.iload_n 1, 1) := by decide +kernel
theorem dX5_clock_69 : decode cX5_clock 69 = .ok (.ifCond .eq 7, 3) := by decide +kernel
theorem dX5_clock_72 : decode cX5_clock 72 = .ok (.iconst 1, 1) := by decide +kernel
theorem dX5_clock_73 : decode cX5_clock 73 = .ok (.goto 4, 3) := by decide +kernel
theorem dX5_clock_76 : decode cX5_clock 76 = .ok (.iconst 0, 1) := by decide +kernel
theorem dX5_clock_77 : decode cX5_clock 77 = .ok (.iload 4, 2) := by decide +kernel
theorem dX5_clock_79 : decode cX5_clock 79 = .ok (.iload_n 3, 1) := by decide +kernel
theorem dX5_clock_80 : decode cX5_clock 80 = .ok (.invokevirtual 173, 3) := by decide +kernel
theorem dX5_clock_83 : decode cX5_clock 83 = .ok (.iload 5, 2) := by decide +kernel
theorem dX5_clock_85 : decode cX5_clock 85 = .ok (.ireturn, 1) := by decide +kernel
theorem dX5_chipHas_0 : decode cX5_chipHas 0 = .ok (.iload_n 1, 1) := by decide +kernel
theorem dX5_chipHas_1 : decode cX5_chipHas 1 = .ok (.tableswitch 75 0 4 #[35, 43, 51, 59, 67], 35) := by decide +kernel
theorem dX5_chipHas_36 : decode cX5_chipHas 36 = .ok (.aload_n 0, 1) := by decide +kernel
theorem dX5_chipHas_37 : decode cX5_chipHas 37 = .ok (.getfield 51, 3) := by decide +kernel
theorem dX5_chipHas_40 : decode cX5_chipHas 40 = .ok (.getfield 177, 3) := by decide +kernel
theorem dX5_chipHas_43 : decode cX5_chipHas 43 = .ok (.ireturn, 1) := by decide +kernel
theorem dX5_chipHas_44 : decode cX5_chipHas 44 = .ok (.aload_n 0, 1) := by decide +kernel
theorem dX5_chipHas_45 : decode cX5_chipHas 45 = .ok (.getfield 51, 3) := by decide +kernel
theorem dX5_chipHas_48 : decode cX5_chipHas 48 = .ok (.getfield 180, 3) := by decide +kernel
theorem dX5_chipHas_51 : decode cX5_chipHas 51 = .ok (.ireturn, 1) := by decide +kernel
theorem dX5_chipHas_52 : decode cX5_chipHas 52 = .ok (.aload_n 0, 1) := by decide +kernel
theorem dX5_chipHas_53 : decode cX5_chipHas 53 = .ok (.getfield 51, 3) := by decide +kernel
theorem dX5_chipHas_56 : decode cX5_chipHas 56 = .ok (.getfield 183, 3) := by decide +kernel
theorem dX5_chipHas_59 : decode cX5_chipHas 59 = .ok (.ireturn, 1) := by decide +kernel
theorem dX5_chipHas_60 : decode cX5_chipHas 60 = .ok (.aload_n 0, 1) := by decide +kernel
theorem dX5_chipHas_61 : decode cX5_chipHas 61 = .ok (.getfield 51, 3) := by decide +kernel
theorem dX5_chipHas_64 : decode cX5_chipHas 64 = .ok (.getfield 186, 3) := by decide +kernel
theorem dX5_chipHas_67 : decode cX5_chipHas 67 = .ok (.ireturn, 1) := by decide +kernel
theorem dX5_chipHas_68 : decode cX5_chipHas 68 = .ok (.aload_n 0, 1) := by decide +kernel
theorem dX5_chipHas_69 : decode cX5_chipHas 69 = .ok (.getfield 51, 3) := by decide +kernel
theorem dX5_chipHas_72 : decode cX5_chipHas 72 = .ok (.getfield 189, 3) := by decide +kernel
theorem dX5_chipHas_75 : decode cX5_chipHas 75 = .ok (.ireturn, 1) := by decide +kernel
theorem dX5_chipHas_76 : decode cX5_chipHas 76 = .ok (.new 55, 3) := by decide +kernel
theorem dX5_chipHas_79 : decode cX5_chipHas 79 = .ok (.dup, 1) := by decide +kernel
theorem dX5_chipHas_80 : decode cX5_chipHas 80 = .ok (.invokespecial 57, 3) := by decide +kernel
theorem dX5_chipHas_83 : decode cX5_chipHas 83 = .ok (.athrow, 1) := by decide +kernel
theorem dX5_isStuck_0 : decode cX5_isStuck 0 = .ok (.iload_n 1, 1) := by decide +kernel
theorem dX5_isStuck_1 : decode cX5_isStuck 1 = .ok (.ifCond .lt 20, 3) := by decide +kernel
theorem dX5_isStuck_4 : decode cX5_isStuck 4 = .ok (.iload_n 1, 1) := by decide +kernel
theorem dX5_isStuck_5 : decode cX5_isStuck 5 = .ok (.iconst 2, 1) := by decide +kernel
theorem dX5_isStuck_6 : decode cX5_isStuck 6 = .ok (.aload_n 0, 1) := by decide +kernel
theorem dX5_isStuck_7 : decode cX5_isStuck 7 = .ok (.getfield 16, 3) := by decide +kernel
theorem dX5_isStuck_10 : decode cX5_isStuck 10 = .ok (.getfield 80, 3) := by decide +kernel
theorem dX5_isStuck_13 : decode cX5_isStuck 13 = .ok (.imul, 1) := by decide +kernel
theorem dX5_isStuck_14 : decode cX5_isStuck 14 = .ok (.if_icmp .ge 7, 3) := by decide +kernel
theorem dX5_isStuck_17 : decode cX5_isStuck 17 = .ok (.iconst 1, 1) := by decide +kernel
theorem dX5_isStuck_18 : decode cX5_isStuck 18 = .ok (.goto 4, 3) := by decide +kernel
theorem dX5_isStuck_21 : decode cX5_isStuck 21 = .ok (.iconst 0, 1) := by decide +kernel
theorem dX5_isStuck_22 : decode cX5_isStuck 22 = .ok (.ireturn, 1) := by decide +kernel
theorem dX5_isChip_0 : decode cX5_isChip 0 = .ok (.iload_n 1, 1) := by decide +kernel
theorem dX5_isChip_1 : decode cX5_isChip 1 = .ok (.iconst (-1), 1) := by decide +kernel
theorem dX5_isChip_2 : decode cX5_isChip 2 = .ok (.if_icmp .eq 11, 3) := by decide +kernel
theorem dX5_isChip_5 : decode cX5_isChip 5 = .ok (.aload_n 0, 1) := by decide +kernel
theorem dX5_isChip_6 : decode cX5_isChip 6 = .ok (.iload_n 1, 1) := by decide +kernel
theorem dX5_isChip_7 : decode cX5_isChip 7 = .ok (.invokevirtual 128, 3) := by decide +kernel
theorem dX5_isChip_10 : decode cX5_isChip 10 = .ok (.ifCond .eq 7, 3) := by decide +kernel
theorem dX5_isChip_13 : decode cX5_isChip 13 = .ok (.iconst 1, 1) := by decide +kernel
theorem dX5_isChip_14 : decode cX5_isChip 14 = .ok (.goto 4, 3) := by decide +kernel
theorem dX5_isChip_17 : decode cX5_isChip 17 = .ok (.iconst 0, 1) := by decide +kernel
theorem dX5_isChip_18 : decode cX5_isChip 18 = .ok (.ireturn, 1) := by decide +kernel
theorem dX5_hasBitsBeyond_0 : decode cX5_hasBitsBeyond 0 = .ok (.iload_n 0, 1) := by decide +kernel
theorem dX5_hasBitsBeyond_1 : decode cX5_hasBitsBeyond 1 = .ok (.iconst 1, 1) := by decide +kernel
theorem dX5_hasBitsBeyond_2 : decode cX5_hasBitsBeyond 2 = .ok (.iload_n 1, 1) := by decide +kernel
theorem dX5_hasBitsBeyond_3 : decode cX5_hasBitsBeyond 3 = .ok (.ishl, 1) := by decide +kernel
theorem dX5_hasBitsBeyond_4 : decode cX5_hasBitsBeyond 4 = .ok (.ineg, 1) := by decide +kernel
theorem dX5_hasBitsBeyond_5 : decode cX5_hasBitsBeyond 5 = .ok (.iand, 1) := by decide +kernel
theorem dX5_hasBitsBeyond_6 : decode cX5_hasBitsBeyond 6 = .ok (.ifCond .eq 7, 3) := by decide +kernel
theorem dX5_hasBitsBeyond_9 : decode cX5_hasBitsBeyond 9 = .ok (.iconst 1, 1) := by decide +kernel
theorem dX5_hasBitsBeyond_10 : decode cX5_hasBitsBeyond 10 = .ok (.goto 4, 3) := by decide +kernel
theorem dX5_hasBitsBeyond_13 : decode cX5_hasBitsBeyond 13 = .ok (.iconst 0, 1) := by decide +kernel
theorem dX5_hasBitsBeyond_14 : decode cX5_hasBitsBeyond 14 = .ok (.ireturn, 1) := by decide +kernel
