theorem dX1_init_0 : decode cX1_init 0 = .ok (.aload_n 0, 1) := by decide +kernel
theorem dX1_init_1 : decode cX1_init 1 = .ok (.invokespecial 5, 3) := by decide +kernel
theorem dX1_init_4 : decode cX1_init 4 = .ok (.aload_n 0, 1) := by decide +kernel
theorem dX1_init_5 : decode cX1_init 5 = .ok (.sipush 1920, 3) := by decide +kernel
theorem dX1_init_8 : decode cX1_init 8 = .ok (.newarray .long, 2) := by decide +kernel
theorem dX1_init_10 : decode cX1_init 10 = .ok (.putfield 11, 3) := by decide +kernel
theorem dX1_init_13 : decode cX1_init 13 = .ok (.aload_n 0, 1) := by decide +kernel
theorem dX1_init_14 : decode cX1_init 14 = .ok (.bipush 60, 2) := by decide +kernel
theorem dX1_init_16 : decode cX1_init 16 = .ok (.newarray .long, 2) := by decide +kernel
theorem dX1_init_18 : decode cX1_init 18 = .ok (.putfield 15, 3) := by decide +kernel
theorem dX1_init_21 : decode cX1_init 21 = .ok (.aload_n 0, 1) := by decide +kernel
theorem dX1_init_22 : decode cX1_init 22 = .ok (.bipush 120, 2) := by decide +kernel
theorem dX1_init_24 : decode cX1_init 24 = .ok (.newarray .int, 2) := by decide +kernel
theorem dX1_init_26 : decode cX1_init 26 = .ok (.putfield 18, 3) := by decide +kernel
theorem dX1_init_29 : decode cX1_init 29 = .ok (.aload_n 0, 1) := by decide +kernel
theorem dX1_init_30 : decode cX1_init 30 = .ok (.bipush 120, 2) := by decide +kernel
theorem dX1_init_32 : decode cX1_init 32 = .ok (.newarray .int, 2) := by decide +kernel
theorem dX1_init_34 : decode cX1_init 34 = .ok (.putfield 22, 3) := by decide +kernel
theorem dX1_init_37 : decode cX1_init 37 = .ok (.aload_n 0, 1) := by decide +kernel
theorem dX1_init_38 : decode cX1_init 38 = .ok (.bipush 120, 2) := by decide +kernel
theorem dX1_init_40 : decode cX1_init 40 = .ok (.newarray .int, 2) := by decide +kernel
theorem dX1_init_42 : decode cX1_init 42 = .ok (.putfield 25, 3) := by decide +kernel
theorem dX1_init_45 : decode cX1_init 45 = .ok (.aload_n 0, 1) := by decide +kernel
theorem dX1_init_46 : decode cX1_init 46 = .ok (.aload_n 1, 1) := by decide +kernel
theorem dX1_init_47 : decode cX1_init 47 = .ok (.putfield 28, 3) := by decide +kernel
theorem dX1_init_50 : decode cX1_init 50 = .ok (.return_, 1) := by decide +kernel
theorem dX1_forget_0 : decode cX1_forget 0 = .ok (.aload_n 0, 1) := by decide +kernel
theorem dX1_forget_1 : decode cX1_forget 1 = .ok (.iconst 0, 1) := by decide +kernel
theorem dX1_forget_2 : decode cX1_forget 2 = .ok (.putfield 32, 3) := by decide +kernel
theorem dX1_forget_5 : decode cX1_forget 5 = .ok (.return_, 1) := by decide +kernel
theorem dX1_make_0 : decode cX1_make 0 = .ok (.aload_n 0, 1) := by decide +kernel
theorem dX1_make_1 : decode cX1_make 1 = .ok (.getfield 32, 3) := by decide +kernel
theorem dX1_make_4 : decode cX1_make 4 = .ok (.ifCond .eq 4, 3) := by decide +kernel
theorem dX1_make_7 : decode cX1_make 7 = .ok (.return_, 1) := by decide +kernel
theorem dX1_make_8 : decode cX1_make 8 = .ok (.aload_n 0, 1) := by decide +kernel
theorem dX1_make_9 : decode cX1_make 9 = .ok (.iconst 1, 1) := by decide +kernel
theorem dX1_make_10 : decode cX1_make 10 = .ok (.putfield 32, 3) := by decide +kernel
theorem dX1_make_13 : decode cX1_make 13 = .ok (.aload_n 0, 1) := by decide +kernel
theorem dX1_make_14 : decode cX1_make 14 = .ok (.getfield 28, 3) := by decide +kernel
theorem dX1_make_17 : decode cX1_make 17 = .ok (.invokevirtual 36, 3) := by decide +kernel
theorem dX1_make_20 : decode cX1_make 20 = .ok (.istore_n 1, 1) := by decide +kernel
theorem dX1_make_21 : decode cX1_make 21 = .ok (.aload_n 0, 1) := by decide +kernel
theorem dX1_make_22 : decode cX1_make 22 = .ok (.iload_n 1, 1) := by decide +kernel
theorem dX1_make_23 : decode cX1_make 23 = .ok (.bipush 6, 2) := by decide +kernel
theorem dX1_make_25 : decode cX1_make 25 = .ok (.if_icmp .le 12, 3) := by decide +kernel
theorem dX1_make_28 : decode cX1_make 28 = .ok (.iconst 1, 1) := by decide +kernel
theorem dX1_make_29 : decode cX1_make 29 = .ok (.iload_n 1, 1) := by decide +kernel
theorem dX1_make_30 : decode cX1_make 30 = .ok (.bipush 6, 2) := by decide +kernel
theorem dX1_make_32 : decode cX1_make 32 = .ok (.isub, 1) := by decide +kernel
theorem dX1_make_33 : decode cX1_make 33 = .ok (.ishl, 1) := by decide +kernel
theorem dX1_make_34 : decode cX1_make 34 = .ok (.goto 4, 3) := by decide +kernel
theorem dX1_make_37 : decode cX1_make 37 = .ok (.iconst 1, 1) := by decide +kernel
theorem dX1_make_38 : decode cX1_make 38 = .ok (.putfield 42, 3) := by decide +kernel
theorem dX1_make_41 : decode cX1_make 41 = .ok (.aload_n 0, 1) := by decide +kernel
theorem dX1_make_42 : decode cX1_make 42 = .ok (.iload_n 1, 1) := by decide +kernel
theorem dX1_make_43 : decode cX1_make 43 = .ok (.bipush 6, 2) := by decide +kernel
theorem dX1_make_45 : decode cX1_make 45 = .ok (.if_icmp .lt 9, 3) := by decide +kernel
theorem dX1_make_48 : decode cX1_make 48 = .ok (.ldc2_w 46, 3) := by decide +kernel
theorem dX1_make_51 : decode cX1_make 51 = .ok (.goto 10, 3) := by decide +kernel
theorem dX1_make_54 : decode cX1_make 54 = .ok (.lconst 1, 1) := by decide +kernel
theorem dX1_make_55 : decode cX1_make 55 = .ok (.iconst 1, 1) := by decide +kernel
theorem dX1_make_56 : decode cX1_make 56 = .ok (.iload_n 1, 1) := by decide +kernel
theorem dX1_make_57 : decode cX1_make 57 = .ok (.ishl, 1) := by decide +kernel
theorem dX1_make_58 : decode cX1_make 58 = .ok (.lshl, 1) := by decide +kernel
theorem dX1_make_59 : decode cX1_make 59 = .ok (.lconst 1, 1) := by decide +kernel
theorem dX1_make_60 : decode cX1_make 60 = .ok (.lsub, 1) := by decide +kernel
theorem dX1_make_61 : decode cX1_make 61 = .ok (.putfield 48, 3) := by decide +kernel
theorem dX1_make_64 : decode cX1_make 64 = .ok (.iconst 0, 1) := by decide +kernel
theorem dX1_make_65 : decode cX1_make 65 = .ok (.istore_n 2, 1) := by decide +kernel
theorem dX1_make_66 : decode cX1_make 66 = .ok (.iload_n 2, 1) := by decide +kernel
theorem dX1_make_67 : decode cX1_make 67 = .ok (.aload_n 0, 1) := by decide +kernel
theorem dX1_make_68 : decode cX1_make 68 = .ok (.getfield 42, 3) := by decide +kernel
theorem dX1_make_71 : decode cX1_make 71 = .ok (.if_icmp .ge 14, 3) := by decide +kernel
theorem dX1_make_74 : decode cX1_make 74 = .ok (.aload_n 0, 1) := by decide +kernel
theorem dX1_make_75 : decode cX1_make 75 = .ok (.iload_n 2, 1) := by decide +kernel
theorem dX1_make_76 : decode cX1_make 76 = .ok (.invokevirtual 52, 3) := by decide +kernel
theorem dX1_make_79 : decode cX1_make 79 = .ok (.iinc 2 1, 3) := by decide +kernel
theorem dX1_make_82 : decode cX1_make 82 = .ok (.goto (-16), 3) := by decide +kernel
theorem dX1_make_85 : decode cX1_make 85 = .ok (.aload_n 0, 1) := by decide +kernel
theorem dX1_make_86 : decode cX1_make 86 = .ok (.invokevirtual 56, 3) := by decide +kernel
theorem dX1_make_89 : decode cX1_make 89 = .ok (.return_, 1) := by decide +kernel
theorem dX1_isTestable_0 : decode cX1_isTestable 0 = .ok (.iconst 0, 1) := by decide +kernel
theorem dX1_isTestable_1 : decode cX1_isTestable 1 = .ok (.istore_n 2, 1) := by decide +kernel
theorem dX1_isTestable_2 : decode cX1_isTestable 2 = .ok (.iload_n 2, 1) := by decide +kernel
theorem dX1_isTestable_3 : decode cX1_isTestable 3 = .ok (.aload_n 0, 1) := by decide +kernel
theorem dX1_isTestable_4 : decode cX1_isTestable 4 = .ok (.getfield 42, 3) := by decide +kernel
theorem dX1_isTestable_7 : decode cX1_isTestable 7 = .ok (.if_icmp .ge 27, 3) := by decide +kernel
theorem dX1_isTestable_10 : decode cX1_isTestable 10 = .ok (.aload_n 0, 1) := by decide +kernel
theorem dX1_isTestable_11 : decode cX1_isTestable 11 = .ok (.getfield 11, 3) := by decide +kernel
theorem dX1_isTestable_14 : decode cX1_isTestable 14 = .ok (.iload_n 1, 1) := by decide +kernel
theorem dX1_isTestable_15 : decode cX1_isTestable 15 = .ok (.bipush 16, 2) := by decide +kernel
theorem dX1_isTestable_17 : decode cX1_isTestable 17 = .ok (.imul, 1) := by decide +kernel
theorem dX1_isTestable_18 : decode cX1_isTestable 18 = .ok (.iload_n 2, 1) := by decide +kernel
theorem dX1_isTestable_19 : decode cX1_isTestable 19 = .ok (.iadd, 1) := by decide +kernel
theorem dX1_isTestable_20 : decode cX1_isTestable 20 = .ok (.laload, 1) := by decide +kernel
theorem dX1_isTestable_21 : decode cX1_isTestable 21 = .ok (.lconst 0, 1) := by decide +kernel
theorem dX1_isTestable_22 : decode cX1_isTestable 22 = .ok (.lcmp, 1) := by decide +kernel
theorem dX1_isTestable_23 : decode cX1_isTestable 23 = .ok (.ifCond .eq 5, 3) := by decide +kernel
theorem dX1_isTestable_26 : decode cX1_isTestable 26 = .ok (.iconst 1, 1) := by decide +kernel
theorem dX1_isTestable_27 : decode cX1_isTestable 27 = .ok (.ireturn, 1) := by decide +kernel
theorem dX1_isTestable_28 : decode cX1_isTestable 28 = .ok (.iinc 2 1, 3) := by decide +kernel
theorem dX1_isTestable_31 : decode cX1_isTestable 31 = .ok (.goto (-29), 3) := by decide +kernel
theorem dX1_isTestable_34 : decode cX1_isTestable 34 = .ok (.iconst 0, 1) := by decide +kernel
theorem dX1_isTestable_35 : decode cX1_isTestable 35 = .ok (.ireturn, 1) := by decide +kernel
theorem dX1_patternCount_0 : decode cX1_patternCount 0 = .ok (.iconst 0, 1) := by decide +kernel
theorem dX1_patternCount_1 : decode cX1_patternCount 1 = .ok (.istore_n 2, 1) := by decide +kernel
theorem dX1_patternCount_2 : decode cX1_patternCount 2 = .ok (.iconst 0, 1) := by decide +kernel
theorem dX1_patternCount_3 : decode cX1_patternCount 3 = .ok (.istore_n 3, 1) := by decide +kernel
theorem dX1_patternCount_4 : decode cX1_patternCount 4 = .ok (.iload_n 3, 1) := by decide +kernel
theorem dX1_patternCount_5 : decode cX1_patternCount 5 = .ok (.aload_n 0, 1) := by decide +kernel
theorem dX1_patternCount_6 : decode cX1_patternCount 6 = .ok (.getfield 42, 3) := by decide +kernel
theorem dX1_patternCount_9 : decode cX1_patternCount 9 = .ok (.if_icmp .ge 26, 3) := by decide +kernel
theorem dX1_patternCount_12 : decode cX1_patternCount 12 = .ok (.iload_n 2, 1) := by decide +kernel
theorem dX1_patternCount_13 : decode cX1_patternCount 13 = .ok (.aload_n 0, 1) := by decide +kernel
theorem dX1_patternCount_14 : decode cX1_patternCount 14 = .ok (.getfield 11, 3) := by decide +kernel
theorem dX1_patternCount_17 : decode cX1_patternCount 17 = .ok (.iload_n 1, 1) := by decide +kernel
theorem dX1_patternCount_18 : decode cX1_patternCount 18 = .ok (.bipush 16, 2) := by decide +kernel
theorem dX1_patternCount_20 : decode cX1_patternCount 20 = .ok (.imul, 1) := by decide +kernel
theorem dX1_patternCount_21 : decode cX1_patternCount 21 = .ok (.iload_n 3, 1) := by decide +kernel
theorem dX1_patternCount_22 : decode cX1_patternCount 22 = .ok (.iadd, 1) := by decide +kernel
theorem dX1_patternCount_23 : decode cX1_patternCount 23 = .ok (.laload, 1) := by decide +kernel
theorem dX1_patternCount_24 : decode cX1_patternCount 24 = .ok (.invokestatic 59, 3) := by decide +kernel
theorem dX1_patternCount_27 : decode cX1_patternCount 27 = .ok (.iadd, 1) := by decide +kernel
theorem dX1_patternCount_28 : decode cX1_patternCount 28 = .ok (.istore_n 2, 1) := by decide +kernel
theorem dX1_patternCount_29 : decode cX1_patternCount 29 = .ok (.iinc 3 1, 3) := by decide +kernel
theorem dX1_patternCount_32 : decode cX1_patternCount 32 = .ok (.goto (-28), 3) := by decide +kernel
theorem dX1_patternCount_35 : decode cX1_patternCount 35 = .ok (.iload_n 2, 1) := by decide +kernel
theorem dX1_patternCount_36 : decode cX1_patternCount 36 = .ok (.ireturn, 1) := by decide +kernel
theorem dX1_leastPattern_0 : decode cX1_leastPattern 0 = .ok (.iconst 0, 1) := by decide +kernel
theorem dX1_leastPattern_1 : decode cX1_leastPattern 1 = .ok (.istore_n 2, 1) := by decide +kernel
theorem dX1_leastPattern_2 : decode cX1_leastPattern 2 = .ok (.iload_n 2, 1) := by decide +kernel
theorem dX1_leastPattern_3 : decode cX1_leastPattern 3 = .ok (.aload_n 0, 1) := by decide +kernel
theorem dX1_leastPattern_4 : decode cX1_leastPattern 4 = .ok (.getfield 42, 3) := by decide +kernel
theorem dX1_leastPattern_7 : decode cX1_leastPattern 7 = .ok (.bipush 6, 2) := by decide +kernel
theorem dX1_leastPattern_9 : decode cX1_leastPattern 9 = .ok (.ishl, 1) := by decide +kernel
theorem dX1_leastPattern_10 : decode cX1_leastPattern 10 = .ok (.if_icmp .ge 39, 3) := by decide +kernel
theorem dX1_leastPattern_13 : decode cX1_leastPattern 13 = .ok (.aload_n 0, 1) := by decide +kernel
theorem dX1_leastPattern_14 : decode cX1_leastPattern 14 = .ok (.getfield 11, 3) := by decide +kernel
theorem dX1_leastPattern_17 : decode cX1_leastPattern 17 = .ok (.iload_n 1, 1) := by decide +kernel
theorem dX1_leastPattern_18 : decode cX1_leastPattern 18 = .ok (.bipush 16, 2) := by decide +kernel
theorem dX1_leastPattern_20 : decode cX1_leastPattern 20 = .ok (.imul, 1) := by decide +kernel
theorem dX1_leastPattern_21 : decode cX1_leastPattern 21 = .ok (.iload_n 2, 1) := by decide +kernel
theorem dX1_leastPattern_22 : decode cX1_leastPattern 22 = .ok (.bipush 6, 2) := by decide +kernel
theorem dX1_leastPattern_24 : decode cX1_leastPattern 24 = .ok (.ishr, 1) := by decide +kernel
theorem dX1_leastPattern_25 : decode cX1_leastPattern 25 = .ok (.iadd, 1) := by decide +kernel
theorem dX1_leastPattern_26 : decode cX1_leastPattern 26 = .ok (.laload, 1) := by decide +kernel
theorem dX1_leastPattern_27 : decode cX1_leastPattern 27 = .ok (.lstore_n 3, 1) := by decide +kernel
theorem dX1_leastPattern_28 : decode cX1_leastPattern 28 = .ok (.lload_n 3, 1) := by decide +kernel
theorem dX1_leastPattern_29 : decode cX1_leastPattern 29 = .ok (.iload_n 2, 1) := by decide +kernel
theorem dX1_leastPattern_30 : decode cX1_leastPattern 30 = .ok (.bipush 63, 2) := by decide +kernel
theorem dX1_leastPattern_32 : decode cX1_leastPattern 32 = .ok (.iand, 1) := by decide +kernel
theorem dX1_leastPattern_33 : decode cX1_leastPattern 33 = .ok (.lshr, 1) := by decide +kernel
theorem dX1_leastPattern_34 : decode cX1_leastPattern 34 = .ok (.lconst 1, 1) := by decide +kernel
theorem dX1_leastPattern_35 : decode cX1_leastPattern 35 = .ok (.land, 1) := by decide +kernel
theorem dX1_leastPattern_36 : decode cX1_leastPattern 36 = .ok (.lconst 0, 1) := by decide +kernel
theorem dX1_leastPattern_37 : decode cX1_leastPattern 37 = .ok (.lcmp, 1) := by decide +kernel
theorem dX1_leastPattern_38 : decode cX1_leastPattern 38 = .ok (.ifCond .eq 5, 3) := by decide +kernel
theorem dX1_leastPattern_41 : decode cX1_leastPattern 41 = .ok (.iload_n 2, 1) := by decide +kernel
theorem dX1_leastPattern_42 : decode cX1_leastPattern 42 = .ok (.ireturn, 1) := by decide +kernel
theorem dX1_leastPattern_43 : decode cX1_leastPattern 43 = .ok (.iinc 2 1, 3) := by decide +kernel
theorem dX1_leastPattern_46 : decode cX1_leastPattern 46 = .ok (.goto (-44), 3) := by decide +kernel
theorem dX1_leastPattern_49 : decode cX1_leastPattern 49 = .ok (.iconst (-1), 1) := by decide +kernel
theorem dX1_leastPattern_50 : decode cX1_leastPattern 50 = .ok (.ireturn, 1) := by decide +kernel
theorem dX1_onesOfCube_0 : decode cX1_onesOfCube 0 = .ok (.aload_n 0, 1) := by decide +kernel
theorem dX1_onesOfCube_1 : decode cX1_onesOfCube 1 = .ok (.iload_n 1, 1) := by decide +kernel
theorem dX1_onesOfCube_2 : decode cX1_onesOfCube 2 = .ok (.invokevirtual 65, 3) := by decide +kernel
theorem dX1_onesOfCube_5 : decode cX1_onesOfCube 5 = .ok (.ifCond .eq 19, 3) := by decide +kernel
theorem dX1_onesOfCube_8 : decode cX1_onesOfCube 8 = .ok (.aload_n 0, 1) := by decide +kernel
theorem dX1_onesOfCube_9 : decode cX1_onesOfCube 9 = .ok (.iload_n 1, 1) := by decide +kernel
theorem dX1_onesOfCube_10 : decode cX1_onesOfCube 10 = .ok (.invokevirtual 69, 3) := by decide +kernel
theorem dX1_onesOfCube_13 : decode cX1_onesOfCube 13 = .ok (.aload_n 0, 1) := by decide +kernel
theorem dX1_onesOfCube_14 : decode cX1_onesOfCube 14 = .ok (.iload_n 1, 1) := by decide +kernel
theorem dX1_onesOfCube_15 : decode cX1_onesOfCube 15 = .ok (.invokevirtual 73, 3) := by decide +kernel
theorem dX1_onesOfCube_18 : decode cX1_onesOfCube 18 = .ok (.iconst (-1), 1) := by decide +kernel
theorem dX1_onesOfCube_19 : decode cX1_onesOfCube 19 = .ok (.ixor, 1) := by decide +kernel
theorem dX1_onesOfCube_20 : decode cX1_onesOfCube 20 = .ok (.iand, 1) := by decide +kernel
theorem dX1_onesOfCube_21 : decode cX1_onesOfCube 21 = .ok (.goto 4, 3) := by decide +kernel
theorem dX1_onesOfCube_24 : decode cX1_onesOfCube 24 = .ok (.iconst (-1), 1) := by decide +kernel
theorem dX1_onesOfCube_25 : decode cX1_onesOfCube 25 = .ok (.ireturn, 1) := by decide +kernel
theorem dX1_freeOfCube_0 : decode cX1_freeOfCube 0 = .ok (.aload_n 0, 1) := by decide +kernel
theorem dX1_freeOfCube_1 : decode cX1_freeOfCube 1 = .ok (.iload_n 1, 1) := by decide +kernel
theorem dX1_freeOfCube_2 : decode cX1_freeOfCube 2 = .ok (.invokevirtual 65, 3) := by decide +kernel
theorem dX1_freeOfCube_5 : decode cX1_freeOfCube 5 = .ok (.ifCond .eq 11, 3) := by decide +kernel
theorem dX1_freeOfCube_8 : decode cX1_freeOfCube 8 = .ok (.aload_n 0, 1) := by decide +kernel
theorem dX1_freeOfCube_9 : decode cX1_freeOfCube 9 = .ok (.iload_n 1, 1) := by decide +kernel
theorem dX1_freeOfCube_10 : decode cX1_freeOfCube 10 = .ok (.invokevirtual 73, 3) := by decide +kernel
theorem dX1_freeOfCube_13 : decode cX1_freeOfCube 13 = .ok (.goto 4, 3) := by decide +kernel
theorem dX1_freeOfCube_16 : decode cX1_freeOfCube 16 = .ok (.iconst (-1), 1) := by decide +kernel
theorem dX1_freeOfCube_17 : decode cX1_freeOfCube 17 = .ok (.ireturn, 1) := by decide +kernel
theorem dX1_weigh_0 : decode cX1_weigh 0 = .ok (.aload_n 0, 1) := by decide +kernel
theorem dX1_weigh_1 : decode cX1_weigh 1 = .ok (.getfield 28, 3) := by decide +kernel
theorem dX1_weigh_4 : decode cX1_weigh 4 = .ok (.getfield 76, 3) := by decide +kernel
theorem dX1_weigh_7 : decode cX1_weigh 7 = .ok (.istore_n 2, 1) := by decide +kernel
theorem dX1_weigh_8 : decode cX1_weigh 8 = .ok (.aload_n 0, 1) := by decide +kernel
theorem dX1_weigh_9 : decode cX1_weigh 9 = .ok (.getfield 28, 3) := by decide +kernel
theorem dX1_weigh_12 : decode cX1_weigh 12 = .ok (.iload_n 1, 1) := by decide +kernel
theorem dX1_weigh_13 : decode cX1_weigh 13 = .ok (.invokevirtual 79, 3) := by decide +kernel
theorem dX1_weigh_16 : decode cX1_weigh 16 = .ok (.aload_n 0, 1) := by decide +kernel
theorem dX1_weigh_17 : decode cX1_weigh 17 = .ok (.getfield 28, 3) := by decide +kernel
theorem dX1_weigh_20 : decode cX1_weigh 20 = .ok (.iconst 0, 1) := by decide +kernel
theorem dX1_weigh_21 : decode cX1_weigh 21 = .ok (.iconst (-1), 1) := by decide +kernel
theorem dX1_weigh_22 : decode cX1_weigh 22 = .ok (.invokevirtual 82, 3) := by decide +kernel
theorem dX1_weigh_25 : decode cX1_weigh 25 = .ok (.aload_n 0, 1) := by decide +kernel
theorem dX1_weigh_26 : decode cX1_weigh 26 = .ok (.getfield 28, 3) := by decide +kernel
theorem dX1_weigh_29 : decode cX1_weigh 29 = .ok (.getfield 86, 3) := by decide +kernel
theorem dX1_weigh_32 : decode cX1_weigh 32 = .ok (.iconst 0, 1) := by decide +kernel
theorem dX1_weigh_33 : decode cX1_weigh 33 = .ok (.aload_n 0, 1) := by decide +kernel
theorem dX1_weigh_34 : decode cX1_weigh 34 = .ok (.getfield 15, 3) := by decide +kernel
theorem dX1_weigh_37 : decode cX1_weigh 37 = .ok (.iconst 0, 1) := by decide +kernel
theorem dX1_weigh_38 : decode cX1_weigh 38 = .ok (.iload_n 2, 1) := by decide +kernel
theorem dX1_weigh_39 : decode cX1_weigh 39 = .ok (.invokestatic 89, 3) := by decide +kernel
theorem dX1_weigh_42 : decode cX1_weigh 42 = .ok (.iconst 0, 1) := by decide +kernel
theorem dX1_weigh_43 : decode cX1_weigh 43 = .ok (.istore_n 3, 1) := by decide +kernel
theorem dX1_weigh_44 : decode cX1_weigh 44 = .ok (.iload_n 3, 1) := by decide +kernel
theorem dX1_weigh_45 : decode cX1_weigh 45 = .ok (.iconst 2, 1) := by decide +kernel
theorem dX1_weigh_46 : decode cX1_weigh 46 = .ok (.iload_n 2, 1) := by decide +kernel
theorem dX1_weigh_47 : decode cX1_weigh 47 = .ok (.imul, 1) := by decide +kernel
theorem dX1_weigh_48 : decode cX1_weigh 48 = .ok (.if_icmp .ge 64, 3) := by decide +kernel
theorem dX1_weigh_51 : decode cX1_weigh 51 = .ok (.aload_n 0, 1) := by decide +kernel
theorem dX1_weigh_52 : decode cX1_weigh 52 = .ok (.getfield 28, 3) := by decide +kernel
theorem dX1_weigh_55 : decode cX1_weigh 55 = .ok (.iload_n 3, 1) := by decide +kernel
theorem dX1_weigh_56 : decode cX1_weigh 56 = .ok (.iconst 1, 1) := by decide +kernel
theorem dX1_weigh_57 : decode cX1_weigh 57 = .ok (.ishr, 1) := by decide +kernel
theorem dX1_weigh_58 : decode cX1_weigh 58 = .ok (.iload_n 3, 1) := by decide +kernel
theorem dX1_weigh_59 : decode cX1_weigh 59 = .ok (.invokevirtual 82, 3) := by decide +kernel
theorem dX1_weigh_62 : decode cX1_weigh 62 = .ok (.aload_n 0, 1) := by decide +kernel
theorem dX1_weigh_63 : decode cX1_weigh 63 = .ok (.getfield 11, 3) := by decide +kernel
theorem dX1_weigh_66 : decode cX1_weigh 66 = .ok (.iload_n 3, 1) := by decide +kernel
theorem dX1_weigh_67 : decode cX1_weigh 67 = .ok (.bipush 16, 2) := by decide +kernel
theorem dX1_weigh_69 : decode cX1_weigh 69 = .ok (.imul, 1) := by decide +kernel
theorem dX1_weigh_70 : decode cX1_weigh 70 = .ok (.iload_n 1, 1) := by decide +kernel
theorem dX1_weigh_71 : decode cX1_weigh 71 = .ok (.iadd, 1) := by decide +kernel
theorem dX1_weigh_72 : decode cX1_weigh 72 = .ok (.aload_n 0, 1) := by decide +kernel
theorem dX1_weigh_73 : decode cX1_weigh 73 = .ok (.getfield 28, 3) := by decide +kernel
theorem dX1_weigh_76 : decode cX1_weigh 76 = .ok (.aload_n 0, 1) := by decide +kernel
theorem dX1_weigh_77 : decode cX1_weigh 77 = .ok (.getfield 15, 3) := by decide +kernel
theorem dX1_weigh_80 : decode cX1_weigh 80 = .ok (.invokevirtual 95, 3) := by decide +kernel
theorem dX1_weigh_83 : decode cX1_weigh 83 = .ok (.aload_n 0, 1) := by decide +kernel
theorem dX1_weigh_84 : decode cX1_weigh 84 = .ok (.getfield 48, 3) := by decide +kernel
theorem dX1_weigh_87 : decode cX1_weigh 87 = .ok (.land, 1) := by decide +kernel
theorem dX1_weigh_88 : decode cX1_weigh 88 = .ok (.lastore, 1) := by decide +kernel
theorem dX1_weigh_89 : decode cX1_weigh 89 = .ok (.aload_n 0, 1) := by decide +kernel
theorem dX1_weigh_90 : decode cX1_weigh 90 = .ok (.getfield 15, 3) := by decide +kernel
theorem dX1_weigh_93 : decode cX1_weigh 93 = .ok (.iconst 0, 1) := by decide +kernel
theorem dX1_weigh_94 : decode cX1_weigh 94 = .ok (.aload_n 0, 1) := by decide +kernel
theorem dX1_weigh_95 : decode cX1_weigh 95 = .ok (.getfield 28, 3) := by decide +kernel
theorem dX1_weigh_98 : decode cX1_weigh 98 = .ok (.getfield 86, 3) := by decide +kernel
theorem dX1_weigh_101 : decode cX1_weigh 101 = .ok (.iconst 0, 1) := by decide +kernel
theorem dX1_weigh_102 : decode cX1_weigh 102 = .ok (.iload_n 2, 1) := by decide +kernel
theorem dX1_weigh_103 : decode cX1_weigh 103 = .ok (.invokestatic 89, 3) := by decide +kernel
theorem dX1_weigh_106 : decode cX1_weigh 106 = .ok (.iinc 3 1, 3) := by decide +kernel
theorem dX1_weigh_109 : decode cX1_weigh 109 = .ok (.goto (-65), 3) := by decide +kernel
theorem dX1_weigh_112 : decode cX1_weigh 112 = .ok (.return_, 1) := by decide +kernel
theorem dX1_choose_0 : decode cX1_choose 0 = .ok (.aload_n 0, 1) := by decide +kernel
theorem dX1_choose_1 : decode cX1_choose 1 = .ok (.iconst 0, 1) := by decide +kernel
theorem dX1_choose_2 : decode cX1_choose 2 = .ok (.putfield 99, 3) := by decide +kernel
theorem dX1_choose_5 : decode cX1_choose 5 = .ok (.aload_n 0, 1) := by decide +kernel
theorem dX1_choose_6 : decode cX1_choose 6 = .ok (.iconst 0, 1) := by decide +kernel
theorem dX1_choose_7 : decode cX1_choose 7 = .ok (.putfield 102, 3) := by decide +kernel
theorem dX1_choose_10 : decode cX1_choose 10 = .ok (.iconst 0, 1) := by decide +kernel
theorem dX1_choose_11 : decode cX1_choose 11 = .ok (.istore_n 1, 1) := by decide +kernel
theorem dX1_choose_12 : decode cX1_choose 12 = .ok (.iload_n 1, 1) := by decide +kernel
theorem dX1_choose_13 : decode cX1_choose 13 = .ok (.iconst 2, 1) := by decide +kernel
theorem dX1_choose_14 : decode cX1_choose 14 = .ok (.aload_n 0, 1) := by decide +kernel
theorem dX1_choose_15 : decode cX1_choose 15 = .ok (.getfield 28, 3) := by decide +kernel
theorem dX1_choose_18 : decode cX1_choose 18 = .ok (.getfield 76, 3) := by decide +kernel
theorem dX1_choose_21 : decode cX1_choose 21 = .ok (.imul, 1) := by decide +kernel
theorem dX1_choose_22 : decode cX1_choose 22 = .ok (.if_icmp .ge 40, 3) := by decide +kernel
theorem dX1_choose_25 : decode cX1_choose 25 = .ok (.aload_n 0, 1) := by decide +kernel
theorem dX1_choose_26 : decode cX1_choose 26 = .ok (.iload_n 1, 1) := by decide +kernel
theorem dX1_choose_27 : decode cX1_choose 27 = .ok (.invokevirtual 65, 3) := by decide +kernel
theorem dX1_choose_30 : decode cX1_choose 30 = .ok (.ifCond .eq 26, 3) := by decide +kernel
theorem dX1_choose_33 : decode cX1_choose 33 = .ok (.aload_n 0, 1) := by decide +kernel
theorem dX1_choose_34 : decode cX1_choose 34 = .ok (.dup, 1) := by decide +kernel
theorem dX1_choose_35 : decode cX1_choose 35 = .ok (.getfield 99, 3) := by decide +kernel
theorem dX1_choose_38 : decode cX1_choose 38 = .ok (.iconst 1, 1) := by decide +kernel
theorem dX1_choose_39 : decode cX1_choose 39 = .ok (.iadd, 1) := by decide +kernel
theorem dX1_choose_40 : decode cX1_choose 40 = .ok (.putfield 99, 3) := by decide +kernel
theorem dX1_choose_43 : decode cX1_choose 43 = .ok (.aload_n 0, 1) := by decide +kernel
theorem dX1_choose_44 : decode cX1_choose 44 = .ok (.iload_n 1, 1) := by decide +kernel
theorem dX1_choose_45 : decode cX1_choose 45 = .ok (.invokevirtual 105, 3) := by decide +kernel
theorem dX1_choose_48 : decode cX1_choose 48 = .ok (.ifCond .ne 8, 3) := by decide +kernel
theorem dX1_choose_51 : decode cX1_choose 51 = .ok (.aload_n 0, 1) := by decide +kernel
theorem dX1_choose_52 : decode cX1_choose 52 = .ok (.iload_n 1, 1) := by decide +kernel
theorem dX1_choose_53 : decode cX1_choose 53 = .ok (.invokevirtual 108, 3) := by decide +kernel
theorem dX1_choose_56 : decode cX1_choose 56 = .ok (.iinc 1 1, 3) := by decide +kernel
theorem dX1_choose_59 : decode cX1_choose 59 = .ok (.goto (-47), 3) := by decide +kernel
theorem dX1_choose_62 : decode cX1_choose 62 = .ok (.iconst 0, 1) := by decide +kernel
theorem dX1_choose_63 : decode cX1_choose 63 = .ok (.istore_n 1, 1) := by decide +kernel
theorem dX1_choose_64 : decode cX1_choose 64 = .ok (.iload_n 1, 1) := by decide +kernel
theorem dX1_choose_65 : decode cX1_choose 65 = .ok (.aload_n 0, 1) := by decide +kernel
theorem dX1_choose_66 : decode cX1_choose 66 = .ok (.getfield 102, 3) := by decide +kernel
theorem dX1_choose_69 : decode cX1_choose 69 = .ok (.if_icmp .ge 29, 3) := by decide +kernel
theorem dX1_choose_72 : decode cX1_choose 72 = .ok (.aload_n 0, 1) := by decide +kernel
theorem dX1_choose_73 : decode cX1_choose 73 = .ok (.getfield 25, 3) := by decide +kernel
theorem dX1_choose_76 : decode cX1_choose 76 = .ok (.iload_n 1, 1) := by decide +kernel
theorem dX1_choose_77 : decode cX1_choose 77 = .ok (.aload_n 0, 1) := by decide +kernel
theorem dX1_choose_78 : decode cX1_choose 78 = .ok (.getfield 28, 3) := by decide +kernel
theorem dX1_choose_81 : decode cX1_choose 81 = .ok (.aload_n 0, 1) := by decide +kernel
theorem dX1_choose_82 : decode cX1_choose 82 = .ok (.getfield 18, 3) := by decide +kernel
theorem dX1_choose_85 : decode cX1_choose 85 = .ok (.iload_n 1, 1) := by decide +kernel
theorem dX1_choose_86 : decode cX1_choose 86 = .ok (.iaload, 1) := by decide +kernel
theorem dX1_choose_87 : decode cX1_choose 87 = .ok (.iconst (-1), 1) := by decide +kernel
theorem dX1_choose_88 : decode cX1_choose 88 = .ok (.invokevirtual 111, 3) := by decide +kernel
theorem dX1_choose_91 : decode cX1_choose 91 = .ok (.iastore, 1) := by decide +kernel
theorem dX1_choose_92 : decode cX1_choose 92 = .ok (.iinc 1 1, 3) := by decide +kernel
theorem dX1_choose_95 : decode cX1_choose 95 = .ok (.goto (-31), 3) := by decide +kernel
theorem dX1_choose_98 : decode cX1_choose 98 = .ok (.return_, 1) := by decide +kernel
theorem dX1_showsWithChosen_0 : decode cX1_showsWithChosen 0 = .ok (.iconst 0, 1) := by decide +kernel
theorem dX1_showsWithChosen_1 : decode cX1_showsWithChosen 1 = .ok (.istore_n 2, 1) := by decide +kernel
theorem dX1_showsWithChosen_2 : decode cX1_showsWithChosen 2 = .ok (.iload_n 2, 1) := by decide +kernel
theorem dX1_showsWithChosen_3 : decode cX1_showsWithChosen 3 = .ok (.aload_n 0, 1) := by decide +kernel
theorem dX1_showsWithChosen_4 : decode cX1_showsWithChosen 4 = .ok (.getfield 102, 3) := by decide +kernel
theorem dX1_showsWithChosen_7 : decode cX1_showsWithChosen 7 = .ok (.if_icmp .ge 31, 3) := by decide +kernel
theorem dX1_showsWithChosen_10 : decode cX1_showsWithChosen 10 = .ok (.aload_n 0, 1) := by decide +kernel
theorem dX1_showsWithChosen_11 : decode cX1_showsWithChosen 11 = .ok (.iload_n 1, 1) := by decide +kernel
theorem dX1_showsWithChosen_12 : decode cX1_showsWithChosen 12 = .ok (.aload_n 0, 1) := by decide +kernel
theorem dX1_showsWithChosen_13 : decode cX1_showsWithChosen 13 = .ok (.getfield 18, 3) := by decide +kernel
theorem dX1_showsWithChosen_16 : decode cX1_showsWithChosen 16 = .ok (.iload_n 2, 1) := by decide +kernel
theorem dX1_showsWithChosen_17 : decode cX1_showsWithChosen 17 = .ok (.iaload, 1) := by decide +kernel
theorem dX1_showsWithChosen_18 : decode cX1_showsWithChosen 18 = .ok (.aload_n 0, 1) := by decide +kernel
theorem dX1_showsWithChosen_19 : decode cX1_showsWithChosen 19 = .ok (.getfield 22, 3) := by decide +kernel
theorem dX1_showsWithChosen_22 : decode cX1_showsWithChosen 22 = .ok (.iload_n 2, 1) := by decide +kernel
theorem dX1_showsWithChosen_23 : decode cX1_showsWithChosen 23 = .ok (.iaload, 1) := by decide +kernel
theorem dX1_showsWithChosen_24 : decode cX1_showsWithChosen 24 = .ok (.invokevirtual 115, 3) := by decide +kernel
theorem dX1_showsWithChosen_27 : decode cX1_showsWithChosen 27 = .ok (.ifCond .eq 5, 3) := by decide +kernel
theorem dX1_showsWithChosen_30 : decode cX1_showsWithChosen 30 = .ok (.iconst 1, 1) := by decide +kernel
theorem dX1_showsWithChosen_31 : decode cX1_showsWithChosen 31 = .ok (.ireturn, 1) := by decide +kernel
theorem dX1_showsWithChosen_32 : decode cX1_showsWithChosen 32 = .ok (.iinc 2 1, 3) := by decide +kernel
theorem dX1_showsWithChosen_35 : decode cX1_showsWithChosen 35 = .ok (.goto (-33), 3) := by decide +kernel
theorem dX1_showsWithChosen_38 : decode cX1_showsWithChosen 38 = .ok (.iconst 0, 1) := by decide +kernel
theorem dX1_showsWithChosen_39 : decode cX1_showsWithChosen 39 = .ok (.ireturn, 1) := by decide +kernel
theorem dX1_merge_0 : decode cX1_merge 0 = .ok (.aload_n 0, 1) := by decide +kernel
theorem dX1_merge_1 : decode cX1_merge 1 = .ok (.iload_n 1, 1) := by decide +kernel
theorem dX1_merge_2 : decode cX1_merge 2 = .ok (.invokevirtual 73, 3) := by decide +kernel
theorem dX1_merge_5 : decode cX1_merge 5 = .ok (.istore_n 2, 1) := by decide +kernel
theorem dX1_merge_6 : decode cX1_merge 6 = .ok (.aload_n 0, 1) := by decide +kernel
theorem dX1_merge_7 : decode cX1_merge 7 = .ok (.iload_n 1, 1) := by decide +kernel
theorem dX1_merge_8 : decode cX1_merge 8 = .ok (.invokevirtual 69, 3) := by decide +kernel
theorem dX1_merge_11 : decode cX1_merge 11 = .ok (.iload_n 2, 1) := by decide +kernel
theorem dX1_merge_12 : decode cX1_merge 12 = .ok (.iconst (-1), 1) := by decide +kernel
theorem dX1_merge_13 : decode cX1_merge 13 = .ok (.ixor, 1) := by decide +kernel
theorem dX1_merge_14 : decode cX1_merge 14 = .ok (.iand, 1) := by decide +kernel
theorem dX1_merge_15 : decode cX1_merge 15 = .ok (.istore_n 3, 1) := by decide +kernel
theorem dX1_merge_16 : decode cX1_merge 16 = .ok (.iconst 0, 1) := by decide +kernel
theorem dX1_merge_17 : decode cX1_merge 17 = .ok (.istore 4, 2) := by decide +kernel
theorem dX1_merge_19 : decode cX1_merge 19 = .ok (.iload 4, 2) := by decide +kernel
theorem dX1_merge_21 : decode cX1_merge 21 = .ok (.aload_n 0, 1) := by decide +kernel
theorem dX1_merge_22 : decode cX1_merge 22 = .ok (.getfield 102, 3) := by decide +kernel
theorem dX1_merge_25 : decode cX1_merge 25 = .ok (.if_icmp .ge 56, 3) := by decide +kernel
theorem dX1_merge_28 : decode cX1_merge 28 = .ok (.aload_n 0, 1) := by decide +kernel
theorem dX1_merge_29 : decode cX1_merge 29 = .ok (.getfield 18, 3) := by decide +kernel
theorem dX1_merge_32 : decode cX1_merge 32 = .ok (.iload 4, 2) := by decide +kernel
theorem dX1_merge_34 : decode cX1_merge 34 = .ok (.iaload, 1) := by decide +kernel
theorem dX1_merge_35 : decode cX1_merge 35 = .ok (.iload_n 3, 1) := by decide +kernel
theorem dX1_merge_36 : decode cX1_merge 36 = .ok (.ixor, 1) := by decide +kernel
theorem dX1_merge_37 : decode cX1_merge 37 = .ok (.aload_n 0, 1) := by decide +kernel
theorem dX1_merge_38 : decode cX1_merge 38 = .ok (.getfield 22, 3) := by decide +kernel
theorem dX1_merge_41 : decode cX1_merge 41 = .ok (.iload 4, 2) := by decide +kernel
theorem dX1_merge_43 : decode cX1_merge 43 = .ok (.iaload, 1) := by decide +kernel
theorem dX1_merge_44 : decode cX1_merge 44 = .ok (.iload_n 2, 1) := by decide +kernel
theorem dX1_merge_45 : decode cX1_merge 45 = .ok (.ior, 1) := by decide +kernel
theorem dX1_merge_46 : decode cX1_merge 46 = .ok (.iconst (-1), 1) := by decide +kernel
theorem dX1_merge_47 : decode cX1_merge 47 = .ok (.ixor, 1) := by decide +kernel
theorem dX1_merge_48 : decode cX1_merge 48 = .ok (.iand, 1) := by decide +kernel
theorem dX1_merge_49 : decode cX1_merge 49 = .ok (.ifCond .ne 26, 3) := by decide +kernel
theorem dX1_merge_52 : decode cX1_merge 52 = .ok (.aload_n 0, 1) := by decide +kernel
theorem dX1_merge_53 : decode cX1_merge 53 = .ok (.getfield 18, 3) := by decide +kernel
theorem dX1_merge_56 : decode cX1_merge 56 = .ok (.iload 4, 2) := by decide +kernel
theorem dX1_merge_58 : decode cX1_merge 58 = .ok (.dup2, 1) := by decide +kernel
theorem dX1_merge_59 : decode cX1_merge 59 = .ok (.iaload, 1) := by decide +kernel
theorem dX1_merge_60 : decode cX1_merge 60 = .ok (.iload_n 3, 1) := by decide +kernel
theorem dX1_merge_61 : decode cX1_merge 61 = .ok (.ior, 1) := by decide +kernel
theorem dX1_merge_62 : decode cX1_merge 62 = .ok (.iastore, 1) := by decide +kernel
theorem dX1_merge_63 : decode cX1_merge 63 = .ok (.aload_n 0, 1) := by decide +kernel
theorem dX1_merge_64 : decode cX1_merge 64 = .ok (.getfield 22, 3) := by decide +kernel
theorem dX1_merge_67 : decode cX1_merge 67 = .ok (.iload 4, 2) := by decide +kernel
theorem dX1_merge_69 : decode cX1_merge 69 = .ok (.dup2, 1) := by decide +kernel
theorem dX1_merge_70 : decode cX1_merge 70 = .ok (.iaload, 1) := by decide +kernel
theorem dX1_merge_71 : decode cX1_merge 71 = .ok (.iload_n 2, 1) := by decide +kernel
theorem dX1_merge_72 : decode cX1_merge 72 = .ok (.iand, 1) := by decide +kernel
theorem dX1_merge_73 : decode cX1_merge 73 = .ok (.iastore, 1) := by decide +kernel
theorem dX1_merge_74 : decode cX1_merge 74 = .ok (.return_, 1) := by decide +kernel
theorem dX1_merge_75 : decode cX1_merge 75 = .ok (.iinc 4 1, 3) := by decide +kernel
theorem dX1_merge_78 : decode cX1_merge 78 = .ok (.goto (-59), 3) := by decide +kernel
theorem dX1_merge_81 : decode cX1_merge 81 = .ok (.aload_n 0, 1) := by decide +kernel
theorem dX1_merge_82 : decode cX1_merge 82 = .ok (.getfield 18, 3) := by decide +kernel
theorem dX1_merge_85 : decode cX1_merge 85 = .ok (.aload_n 0, 1) := by decide +kernel
theorem dX1_merge_86 : decode cX1_merge 86 = .ok (.getfield 102, 3) := by decide +kernel
theorem dX1_merge_89 : decode cX1_merge 89 = .ok (.iload_n 3, 1) := by decide +kernel
theorem dX1_merge_90 : decode cX1_merge 90 = .ok (.iastore, 1) := by decide +kernel
theorem dX1_merge_91 : decode cX1_merge 91 = .ok (.aload_n 0, 1) := by decide +kernel
theorem dX1_merge_92 : decode cX1_merge 92 = .ok (.getfield 22, 3) := by decide +kernel
theorem dX1_merge_95 : decode cX1_merge 95 = .ok (.aload_n 0, 1) := by decide +kernel
theorem dX1_merge_96 : decode cX1_merge 96 = .ok (.getfield 102, 3) := by decide +kernel
theorem dX1_merge_99 : decode cX1_merge 99 = .ok (.iload_n 2, 1) := by decide +kernel
theorem dX1_merge_100 : decode cX1_merge 100 = .ok (.iastore, 1) := by decide +kernel
theorem dX1_merge_101 : decode cX1_merge 101 = .ok (.aload_n 0, 1) := by decide +kernel
theorem dX1_merge_102 : decode cX1_merge 102 = .ok (.dup, 1) := by decide +kernel
theorem dX1_merge_103 : decode cX1_merge 103 = .ok (.getfield 102, 3) := by decide +kernel
theorem dX1_merge_106 : decode cX1_merge 106 = .ok (.iconst 1, 1) := by decide +kernel
theorem dX1_merge_107 : decode cX1_merge 107 = .ok (.iadd, 1) := by decide +kernel
theorem dX1_merge_108 : decode cX1_merge 108 = .ok (.putfield 102, 3) := by decide +kernel
theorem dX1_merge_111 : decode cX1_merge 111 = .ok (.return_, 1) := by decide +kernel
theorem dX1_freeSources_0 : decode cX1_freeSources 0 = .ok (.aload_n 0, 1) := by decide +kernel
theorem dX1_freeSources_1 : decode cX1_freeSources 1 = .ok (.iload_n 1, 1) := by decide +kernel
theorem dX1_freeSources_2 : decode cX1_freeSources 2 = .ok (.invokevirtual 69, 3) := by decide +kernel
theorem dX1_freeSources_5 : decode cX1_freeSources 5 = .ok (.istore_n 2, 1) := by decide +kernel
theorem dX1_freeSources_6 : decode cX1_freeSources 6 = .ok (.iconst 0, 1) := by decide +kernel
theorem dX1_freeSources_7 : decode cX1_freeSources 7 = .ok (.istore_n 3, 1) := by decide +kernel
theorem dX1_freeSources_8 : decode cX1_freeSources 8 = .ok (.iconst 0, 1) := by decide +kernel
theorem dX1_freeSources_9 : decode cX1_freeSources 9 = .ok (.istore 4, 2) := by decide +kernel
theorem dX1_freeSources_11 : decode cX1_freeSources 11 = .ok (.iload 4, 2) := by decide +kernel
theorem dX1_freeSources_13 : decode cX1_freeSources 13 = .ok (.aload_n 0, 1) := by decide +kernel
theorem dX1_freeSources_14 : decode cX1_freeSources 14 = .ok (.getfield 28, 3) := by decide +kernel
theorem dX1_freeSources_17 : decode cX1_freeSources 17 = .ok (.invokevirtual 36, 3) := by decide +kernel
theorem dX1_freeSources_20 : decode cX1_freeSources 20 = .ok (.if_icmp .ge 31, 3) := by decide +kernel
theorem dX1_freeSources_23 : decode cX1_freeSources 23 = .ok (.aload_n 0, 1) := by decide +kernel
theorem dX1_freeSources_24 : decode cX1_freeSources 24 = .ok (.iload_n 1, 1) := by decide +kernel
theorem dX1_freeSources_25 : decode cX1_freeSources 25 = .ok (.iload_n 2, 1) := by decide +kernel
theorem dX1_freeSources_26 : decode cX1_freeSources 26 = .ok (.iload_n 3, 1) := by decide +kernel
theorem dX1_freeSources_27 : decode cX1_freeSources 27 = .ok (.iconst 1, 1) := by decide +kernel
theorem dX1_freeSources_28 : decode cX1_freeSources 28 = .ok (.iload 4, 2) := by decide +kernel
theorem dX1_freeSources_30 : decode cX1_freeSources 30 = .ok (.ishl, 1) := by decide +kernel
theorem dX1_freeSources_31 : decode cX1_freeSources 31 = .ok (.ior, 1) := by decide +kernel
theorem dX1_freeSources_32 : decode cX1_freeSources 32 = .ok (.invokevirtual 115, 3) := by decide +kernel
theorem dX1_freeSources_35 : decode cX1_freeSources 35 = .ok (.ifCond .eq 10, 3) := by decide +kernel
theorem dX1_freeSources_38 : decode cX1_freeSources 38 = .ok (.iload_n 3, 1) := by decide +kernel
theorem dX1_freeSources_39 : decode cX1_freeSources 39 = .ok (.iconst 1, 1) := by decide +kernel
theorem dX1_freeSources_40 : decode cX1_freeSources 40 = .ok (.iload 4, 2) := by decide +kernel
theorem dX1_freeSources_42 : decode cX1_freeSources 42 = .ok (.ishl, 1) := by decide +kernel
theorem dX1_freeSources_43 : decode cX1_freeSources 43 = .ok (.ior, 1) := by decide +kernel
theorem dX1_freeSources_44 : decode cX1_freeSources 44 = .ok (.istore_n 3, 1) := by decide +kernel
theorem dX1_freeSources_45 : decode cX1_freeSources 45 = .ok (.iinc 4 1, 3) := by decide +kernel
theorem dX1_freeSources_48 : decode cX1_freeSources 48 = .ok (.goto (-37), 3) := by decide +kernel
theorem dX1_freeSources_51 : decode cX1_freeSources 51 = .ok (.iload_n 3, 1) := by decide +kernel
theorem dX1_freeSources_52 : decode cX1_freeSources 52 = .ok (.ireturn, 1) := by decide +kernel
theorem dX1_showsWith_0 : decode cX1_showsWith 0 = .ok (.aload_n 0, 1) := by decide +kernel
theorem dX1_showsWith_1 : decode cX1_showsWith 1 = .ok (.getfield 48, 3) := by decide +kernel
theorem dX1_showsWith_4 : decode cX1_showsWith 4 = .ok (.lstore 4, 2) := by decide +kernel
theorem dX1_showsWith_6 : decode cX1_showsWith 6 = .ok (.iconst 0, 1) := by decide +kernel
theorem dX1_showsWith_7 : decode cX1_showsWith 7 = .ok (.istore 6, 2) := by decide +kernel
theorem dX1_showsWith_9 : decode cX1_showsWith 9 = .ok (.iload 6, 2) := by decide +kernel
theorem dX1_showsWith_11 : decode cX1_showsWith 11 = .ok (.bipush 6, 2) := by decide +kernel
theorem dX1_showsWith_13 : decode cX1_showsWith 13 = .ok (.if_icmp .ge 63, 3) := by decide +kernel
theorem dX1_showsWith_16 : decode cX1_showsWith 16 = .ok (.iload 6, 2) := by decide +kernel
theorem dX1_showsWith_18 : decode cX1_showsWith 18 = .ok (.aload_n 0, 1) := by decide +kernel
theorem dX1_showsWith_19 : decode cX1_showsWith 19 = .ok (.getfield 28, 3) := by decide +kernel
theorem dX1_showsWith_22 : decode cX1_showsWith 22 = .ok (.invokevirtual 36, 3) := by decide +kernel
theorem dX1_showsWith_25 : decode cX1_showsWith 25 = .ok (.if_icmp .ge 51, 3) := by decide +kernel
theorem dX1_showsWith_28 : decode cX1_showsWith 28 = .ok (.iload_n 3, 1) := by decide +kernel
theorem dX1_showsWith_29 : decode cX1_showsWith 29 = .ok (.iload 6, 2) := by decide +kernel
theorem dX1_showsWith_31 : decode cX1_showsWith 31 = .ok (.ishr, 1) := by decide +kernel
theorem dX1_showsWith_32 : decode cX1_showsWith 32 = .ok (.iconst 1, 1) := by decide +kernel
theorem dX1_showsWith_33 : decode cX1_showsWith 33 = .ok (.iand, 1) := by decide +kernel
theorem dX1_showsWith_34 : decode cX1_showsWith 34 = .ok (.ifCond .ne 36, 3) := by decide +kernel
theorem dX1_showsWith_37 : decode cX1_showsWith 37 = .ok (.lload 4, 2) := by decide +kernel
theorem dX1_showsWith_39 : decode cX1_showsWith 39 = .ok (.iload_n 2, 1) := by decide +kernel
theorem dX1_showsWith_40 : decode cX1_showsWith 40 = .ok (.iload 6, 2) := by decide +kernel
theorem dX1_showsWith_42 : decode cX1_showsWith 42 = .ok (.ishr, 1) := by decide +kernel
theorem dX1_showsWith_43 : decode cX1_showsWith 43 = .ok (.iconst 1, 1) := by decide +kernel
theorem dX1_showsWith_44 : decode cX1_showsWith 44 = .ok (.iand, 1) := by decide +kernel
theorem dX1_showsWith_45 : decode cX1_showsWith 45 = .ok (.ifCond .eq 12, 3) := by decide +kernel
theorem dX1_showsWith_48 : decode cX1_showsWith 48 = .ok (.getstatic 119, 3) := by decide +kernel
theorem dX1_showsWith_51 : decode cX1_showsWith 51 = .ok (.iload 6, 2) := by decide +kernel
theorem dX1_showsWith_53 : decode cX1_showsWith 53 = .ok (.laload, 1) := by decide +kernel
theorem dX1_showsWith_54 : decode cX1_showsWith 54 = .ok (.goto 13, 3) := by decide +kernel
theorem dX1_showsWith_57 : decode cX1_showsWith 57 = .ok (.getstatic 119, 3) := by decide +kernel
theorem dX1_showsWith_60 : decode cX1_showsWith 60 = .ok (.iload 6, 2) := by decide +kernel
theorem dX1_showsWith_62 : decode cX1_showsWith 62 = .ok (.laload, 1) := by decide +kernel
theorem dX1_showsWith_63 : decode cX1_showsWith 63 = .ok (.ldc2_w 46, 3) := by decide +kernel
theorem dX1_showsWith_66 : decode cX1_showsWith 66 = .ok (.lxor, 1) := by decide +kernel
theorem dX1_showsWith_67 : decode cX1_showsWith 67 = .ok (.land, 1) := by decide +kernel
theorem dX1_showsWith_68 : decode cX1_showsWith 68 = .ok (.lstore 4, 2) := by decide +kernel
theorem dX1_showsWith_70 : decode cX1_showsWith 70 = .ok (.iinc 6 1, 3) := by decide +kernel
theorem dX1_showsWith_73 : decode cX1_showsWith 73 = .ok (.goto (-64), 3) := by decide +kernel
theorem dX1_showsWith_76 : decode cX1_showsWith 76 = .ok (.iconst 0, 1) := by decide +kernel
theorem dX1_showsWith_77 : decode cX1_showsWith 77 = .ok (.istore 6, 2) := by decide +kernel
theorem dX1_showsWith_79 : decode cX1_showsWith 79 = .ok (.iload 6, 2) := by decide +kernel
theorem dX1_showsWith_81 : decode cX1_showsWith 81 = .ok (.aload_n 0, 1) := by decide +kernel
theorem dX1_showsWith_82 : decode cX1_showsWith 82 = .ok (.getfield 42, 3) := by decide +kernel
theorem dX1_showsWith_85 : decode cX1_showsWith 85 = .ok (.if_icmp .ge 64, 3) := by decide +kernel
theorem dX1_showsWith_88 : decode cX1_showsWith 88 = .ok (.iload 6, 2) := by decide +kernel
theorem dX1_showsWith_90 : decode cX1_showsWith 90 = .ok (.iload_n 2, 1) := by decide +kernel
theorem dX1_showsWith_91 : decode cX1_showsWith 91 = .ok (.bipush 6, 2) := by decide +kernel
theorem dX1_showsWith_93 : decode cX1_showsWith 93 = .ok (.ishr, 1) := by decide +kernel
theorem dX1_showsWith_94 : decode cX1_showsWith 94 = .ok (.ixor, 1) := by decide +kernel
theorem dX1_showsWith_95 : decode cX1_showsWith 95 = .ok (.iload_n 3, 1) := by decide +kernel
theorem dX1_showsWith_96 : decode cX1_showsWith 96 = .ok (.bipush 6, 2) := by decide +kernel
theorem dX1_showsWith_98 : decode cX1_showsWith 98 = .ok (.ishr, 1) := by decide +kernel
theorem dX1_showsWith_99 : decode cX1_showsWith 99 = .ok (.iconst (-1), 1) := by decide +kernel
theorem dX1_showsWith_100 : decode cX1_showsWith 100 = .ok (.ixor, 1) := by decide +kernel
theorem dX1_showsWith_101 : decode cX1_showsWith 101 = .ok (.iand, 1) := by decide +kernel
theorem dX1_showsWith_102 : decode cX1_showsWith 102 = .ok (.ifCond .ne 7, 3) := by decide +kernel
theorem dX1_showsWith_105 : decode cX1_showsWith 105 = .ok (.iconst 1, 1) := by decide +kernel
theorem dX1_showsWith_106 : decode cX1_showsWith 106 = .ok (.goto 4, 3) := by decide +kernel
theorem dX1_showsWith_109 : decode cX1_showsWith 109 = .ok (.iconst 0, 1) := by decide +kernel
theorem dX1_showsWith_110 : decode cX1_showsWith 110 = .ok (.istore 7, 2) := by decide +kernel
theorem dX1_showsWith_112 : decode cX1_showsWith 112 = .ok (.iload 7, 2) := by decide +kernel
theorem dX1_showsWith_114 : decode cX1_showsWith 114 = .ok (.ifCond .eq 29, 3) := by decide +kernel
theorem dX1_showsWith_117 : decode cX1_showsWith 117 = .ok (.lload 4, 2) := by decide +kernel
theorem dX1_showsWith_119 : decode cX1_showsWith 119 = .ok (.aload_n 0, 1) := by decide +kernel
theorem dX1_showsWith_120 : decode cX1_showsWith 120 = .ok (.getfield 11, 3) := by decide +kernel
theorem dX1_showsWith_123 : decode cX1_showsWith 123 = .ok (.iload_n 1, 1) := by decide +kernel
theorem dX1_showsWith_124 : decode cX1_showsWith 124 = .ok (.bipush 16, 2) := by decide +kernel
theorem dX1_showsWith_126 : decode cX1_showsWith 126 = .ok (.imul, 1) := by decide +kernel
theorem dX1_showsWith_127 : decode cX1_showsWith 127 = .ok (.iload 6, 2) := by decide +kernel
theorem dX1_showsWith_129 : decode cX1_showsWith 129 = .ok (.iadd, 1) := by decide +kernel
theorem dX1_showsWith_130 : decode cX1_showsWith 130 = .ok (.laload, 1) := by decide +kernel
theorem dX1_showsWith_131 : decode cX1_showsWith 131 = .ok (.ldc2_w 46, 3) := by decide +kernel
theorem dX1_showsWith_134 : decode cX1_showsWith 134 = .ok (.lxor, 1) := by decide +kernel
theorem dX1_showsWith_135 : decode cX1_showsWith 135 = .ok (.land, 1) := by decide +kernel
theorem dX1_showsWith_136 : decode cX1_showsWith 136 = .ok (.lconst 0, 1) := by decide +kernel
theorem dX1_showsWith_137 : decode cX1_showsWith 137 = .ok (.lcmp, 1) := by decide +kernel
theorem dX1_showsWith_138 : decode cX1_showsWith 138 = .ok (.ifCond .eq 5, 3) := by decide +kernel
theorem dX1_showsWith_141 : decode cX1_showsWith 141 = .ok (.iconst 0, 1) := by decide +kernel
theorem dX1_showsWith_142 : decode cX1_showsWith 142 = .ok (.ireturn, 1) := by decide +kernel
theorem dX1_showsWith_143 : decode cX1_showsWith 143 = .ok (.iinc 6 1, 3) := by decide +kernel
theorem dX1_showsWith_146 : decode cX1_showsWith 146 = .ok (.goto (-67), 3) := by decide +kernel
theorem dX1_showsWith_149 : decode cX1_showsWith 149 = .ok (.iconst 1, 1) := by decide +kernel
theorem dX1_showsWith_150 : decode cX1_showsWith 150 = .ok (.ireturn, 1) := by decide +kernel
