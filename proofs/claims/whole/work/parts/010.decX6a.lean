theorem dX6_init_0 : decode cX6_init 0 = .ok (.aload_n 0, 1) := by decide +kernel
theorem dX6_init_1 : decode cX6_init 1 = .ok (.invokespecial 1, 3) := by decide +kernel
theorem dX6_init_4 : decode cX6_init 4 = .ok (.aload_n 0, 1) := by decide +kernel
theorem dX6_init_5 : decode cX6_init 5 = .ok (.sipush 900, 3) := by decide +kernel
theorem dX6_init_8 : decode cX6_init 8 = .ok (.newarray .int, 2) := by decide +kernel
theorem dX6_init_10 : decode cX6_init 10 = .ok (.putfield 7, 3) := by decide +kernel
theorem dX6_init_13 : decode cX6_init 13 = .ok (.aload_n 0, 1) := by decide +kernel
theorem dX6_init_14 : decode cX6_init 14 = .ok (.iconst (-1), 1) := by decide +kernel
theorem dX6_init_15 : decode cX6_init 15 = .ok (.putfield 13, 3) := by decide +kernel
theorem dX6_init_18 : decode cX6_init 18 = .ok (.aload_n 0, 1) := by decide +kernel
theorem dX6_init_19 : decode cX6_init 19 = .ok (.bipush 60, 2) := by decide +kernel
theorem dX6_init_21 : decode cX6_init 21 = .ok (.newarray .int, 2) := by decide +kernel
theorem dX6_init_23 : decode cX6_init 23 = .ok (.putfield 17, 3) := by decide +kernel
theorem dX6_init_26 : decode cX6_init 26 = .ok (.aload_n 0, 1) := by decide +kernel
theorem dX6_init_27 : decode cX6_init 27 = .ok (.bipush 60, 2) := by decide +kernel
theorem dX6_init_29 : decode cX6_init 29 = .ok (.newarray .int, 2) := by decide +kernel
theorem dX6_init_31 : decode cX6_init 31 = .ok (.putfield 20, 3) := by decide +kernel
theorem dX6_init_34 : decode cX6_init 34 = .ok (.aload_n 0, 1) := by decide +kernel
theorem dX6_init_35 : decode cX6_init 35 = .ok (.bipush 60, 2) := by decide +kernel
theorem dX6_init_37 : decode cX6_init 37 = .ok (.newarray .int, 2) := by decide +kernel
theorem dX6_init_39 : decode cX6_init 39 = .ok (.putfield 23, 3) := by decide +kernel
theorem dX6_init_42 : decode cX6_init 42 = .ok (.aload_n 0, 1) := by decide +kernel
theorem dX6_init_43 : decode cX6_init 43 = .ok (.sipush 240, 3) := by decide +kernel
theorem dX6_init_46 : decode cX6_init 46 = .ok (.newarray .int, 2) := by decide +kernel
theorem dX6_init_48 : decode cX6_init 48 = .ok (.putfield 26, 3) := by decide +kernel
theorem dX6_init_51 : decode cX6_init 51 = .ok (.aload_n 0, 1) := by decide +kernel
theorem dX6_init_52 : decode cX6_init 52 = .ok (.bipush 10, 2) := by decide +kernel
theorem dX6_init_54 : decode cX6_init 54 = .ok (.newarray .int, 2) := by decide +kernel
theorem dX6_init_56 : decode cX6_init 56 = .ok (.putfield 29, 3) := by decide +kernel
theorem dX6_init_59 : decode cX6_init 59 = .ok (.aload_n 0, 1) := by decide +kernel
theorem dX6_init_60 : decode cX6_init 60 = .ok (.bipush 8, 2) := by decide +kernel
theorem dX6_init_62 : decode cX6_init 62 = .ok (.newarray .int, 2) := by decide +kernel
theorem dX6_init_64 : decode cX6_init 64 = .ok (.putfield 32, 3) := by decide +kernel
theorem dX6_init_67 : decode cX6_init 67 = .ok (.aload_n 0, 1) := by decide +kernel
theorem dX6_init_68 : decode cX6_init 68 = .ok (.bipush 60, 2) := by decide +kernel
theorem dX6_init_70 : decode cX6_init 70 = .ok (.newarray .int, 2) := by decide +kernel
theorem dX6_init_72 : decode cX6_init 72 = .ok (.putfield 35, 3) := by decide +kernel
theorem dX6_init_75 : decode cX6_init 75 = .ok (.aload_n 0, 1) := by decide +kernel
theorem dX6_init_76 : decode cX6_init 76 = .ok (.bipush 60, 2) := by decide +kernel
theorem dX6_init_78 : decode cX6_init 78 = .ok (.newarray .int, 2) := by decide +kernel
theorem dX6_init_80 : decode cX6_init 80 = .ok (.putfield 38, 3) := by decide +kernel
theorem dX6_init_83 : decode cX6_init 83 = .ok (.aload_n 0, 1) := by decide +kernel
theorem dX6_init_84 : decode cX6_init 84 = .ok (.sipush 240, 3) := by decide +kernel
theorem dX6_init_87 : decode cX6_init 87 = .ok (.newarray .int, 2) := by decide +kernel
theorem dX6_init_89 : decode cX6_init 89 = .ok (.putfield 41, 3) := by decide +kernel
theorem dX6_init_92 : decode cX6_init 92 = .ok (.aload_n 0, 1) := by decide +kernel
theorem dX6_init_93 : decode cX6_init 93 = .ok (.bipush 10, 2) := by decide +kernel
theorem dX6_init_95 : decode cX6_init 95 = .ok (.newarray .int, 2) := by decide +kernel
theorem dX6_init_97 : decode cX6_init 97 = .ok (.putfield 44, 3) := by decide +kernel
theorem dX6_init_100 : decode cX6_init 100 = .ok (.aload_n 0, 1) := by decide +kernel
theorem dX6_init_101 : decode cX6_init 101 = .ok (.bipush 8, 2) := by decide +kernel
theorem dX6_init_103 : decode cX6_init 103 = .ok (.newarray .int, 2) := by decide +kernel
theorem dX6_init_105 : decode cX6_init 105 = .ok (.putfield 47, 3) := by decide +kernel
theorem dX6_init_108 : decode cX6_init 108 = .ok (.aload_n 0, 1) := by decide +kernel
theorem dX6_init_109 : decode cX6_init 109 = .ok (.ldc 50, 2) := by decide +kernel
theorem dX6_init_111 : decode cX6_init 111 = .ok (.newarray .boolean, 2) := by decide +kernel
theorem dX6_init_113 : decode cX6_init 113 = .ok (.putfield 51, 3) := by decide +kernel
theorem dX6_init_116 : decode cX6_init 116 = .ok (.aload_n 0, 1) := by decide +kernel
theorem dX6_init_117 : decode cX6_init 117 = .ok (.sipush 1024, 3) := by decide +kernel
theorem dX6_init_120 : decode cX6_init 120 = .ok (.newarray .int, 2) := by decide +kernel
theorem dX6_init_122 : decode cX6_init 122 = .ok (.putfield 55, 3) := by decide +kernel
theorem dX6_init_125 : decode cX6_init 125 = .ok (.aload_n 0, 1) := by decide +kernel
theorem dX6_init_126 : decode cX6_init 126 = .ok (.bipush 60, 2) := by decide +kernel
theorem dX6_init_128 : decode cX6_init 128 = .ok (.newarray .int, 2) := by decide +kernel
theorem dX6_init_130 : decode cX6_init 130 = .ok (.putfield 58, 3) := by decide +kernel
theorem dX6_init_133 : decode cX6_init 133 = .ok (.aload_n 0, 1) := by decide +kernel
theorem dX6_init_134 : decode cX6_init 134 = .ok (.bipush 120, 2) := by decide +kernel
theorem dX6_init_136 : decode cX6_init 136 = .ok (.newarray .int, 2) := by decide +kernel
theorem dX6_init_138 : decode cX6_init 138 = .ok (.putfield 61, 3) := by decide +kernel
theorem dX6_init_141 : decode cX6_init 141 = .ok (.aload_n 0, 1) := by decide +kernel
theorem dX6_init_142 : decode cX6_init 142 = .ok (.bipush 120, 2) := by decide +kernel
theorem dX6_init_144 : decode cX6_init 144 = .ok (.newarray .int, 2) := by decide +kernel
theorem dX6_init_146 : decode cX6_init 146 = .ok (.putfield 64, 3) := by decide +kernel
theorem dX6_init_149 : decode cX6_init 149 = .ok (.aload_n 0, 1) := by decide +kernel
theorem dX6_init_150 : decode cX6_init 150 = .ok (.sipush 10000, 3) := by decide +kernel
theorem dX6_init_153 : decode cX6_init 153 = .ok (.newarray .int, 2) := by decide +kernel
theorem dX6_init_155 : decode cX6_init 155 = .ok (.putfield 67, 3) := by decide +kernel
theorem dX6_init_158 : decode cX6_init 158 = .ok (.aload_n 0, 1) := by decide +kernel
theorem dX6_init_159 : decode cX6_init 159 = .ok (.iconst (-1), 1) := by decide +kernel
theorem dX6_init_160 : decode cX6_init 160 = .ok (.putfield 70, 3) := by decide +kernel
theorem dX6_init_163 : decode cX6_init 163 = .ok (.aload_n 0, 1) := by decide +kernel
theorem dX6_init_164 : decode cX6_init 164 = .ok (.iconst 3, 1) := by decide +kernel
theorem dX6_init_165 : decode cX6_init 165 = .ok (.putfield 73, 3) := by decide +kernel
theorem dX6_init_168 : decode cX6_init 168 = .ok (.return_, 1) := by decide +kernel
theorem dX6_thrown_0 : decode cX6_thrown 0 = .ok (.aload_n 0, 1) := by decide +kernel
theorem dX6_thrown_1 : decode cX6_thrown 1 = .ok (.getfield 76, 3) := by decide +kernel
theorem dX6_thrown_4 : decode cX6_thrown 4 = .ok (.ireturn, 1) := by decide +kernel
theorem dX6_feed_0 : decode cX6_feed 0 = .ok (.aload_n 0, 1) := by decide +kernel
theorem dX6_feed_1 : decode cX6_feed 1 = .ok (.iload_n 1, 1) := by decide +kernel
theorem dX6_feed_2 : decode cX6_feed 2 = .ok (.iconst 1, 1) := by decide +kernel
theorem dX6_feed_3 : decode cX6_feed 3 = .ok (.if_icmp .lt 9, 3) := by decide +kernel
theorem dX6_feed_6 : decode cX6_feed 6 = .ok (.iload_n 1, 1) := by decide +kernel
theorem dX6_feed_7 : decode cX6_feed 7 = .ok (.bipush 8, 2) := by decide +kernel
theorem dX6_feed_9 : decode cX6_feed 9 = .ok (.if_icmp .le 7, 3) := by decide +kernel
theorem dX6_feed_12 : decode cX6_feed 12 = .ok (.iconst 1, 1) := by decide +kernel
theorem dX6_feed_13 : decode cX6_feed 13 = .ok (.goto 4, 3) := by decide +kernel
theorem dX6_feed_16 : decode cX6_feed 16 = .ok (.iconst 0, 1) := by decide +kernel
theorem dX6_feed_17 : decode cX6_feed 17 = .ok (.putfield 76, 3) := by decide +kernel
theorem dX6_feed_20 : decode cX6_feed 20 = .ok (.aload_n 0, 1) := by decide +kernel
theorem dX6_feed_21 : decode cX6_feed 21 = .ok (.getfield 76, 3) := by decide +kernel
theorem dX6_feed_24 : decode cX6_feed 24 = .ok (.ifCond .le 5, 3) := by decide +kernel
theorem dX6_feed_27 : decode cX6_feed 27 = .ok (.iconst 0, 1) := by decide +kernel
theorem dX6_feed_28 : decode cX6_feed 28 = .ok (.ireturn, 1) := by decide +kernel
theorem dX6_feed_29 : decode cX6_feed 29 = .ok (.aload_n 0, 1) := by decide +kernel
theorem dX6_feed_30 : decode cX6_feed 30 = .ok (.getfield 79, 3) := by decide +kernel
theorem dX6_feed_33 : decode cX6_feed 33 = .ok (.iload_n 1, 1) := by decide +kernel
theorem dX6_feed_34 : decode cX6_feed 34 = .ok (.iadd, 1) := by decide +kernel
theorem dX6_feed_35 : decode cX6_feed 35 = .ok (.sipush 900, 3) := by decide +kernel
theorem dX6_feed_38 : decode cX6_feed 38 = .ok (.if_icmp .le 5, 3) := by decide +kernel
theorem dX6_feed_41 : decode cX6_feed 41 = .ok (.iconst (-1), 1) := by decide +kernel
theorem dX6_feed_42 : decode cX6_feed 42 = .ok (.ireturn, 1) := by decide +kernel
theorem dX6_feed_43 : decode cX6_feed 43 = .ok (.iconst 0, 1) := by decide +kernel
theorem dX6_feed_44 : decode cX6_feed 44 = .ok (.istore 4, 2) := by decide +kernel
theorem dX6_feed_46 : decode cX6_feed 46 = .ok (.iload 4, 2) := by decide +kernel
theorem dX6_feed_48 : decode cX6_feed 48 = .ok (.iload_n 1, 1) := by decide +kernel
theorem dX6_feed_49 : decode cX6_feed 49 = .ok (.if_icmp .ge 40, 3) := by decide +kernel
theorem dX6_feed_52 : decode cX6_feed 52 = .ok (.aload_n 0, 1) := by decide +kernel
theorem dX6_feed_53 : decode cX6_feed 53 = .ok (.getfield 7, 3) := by decide +kernel
theorem dX6_feed_56 : decode cX6_feed 56 = .ok (.aload_n 0, 1) := by decide +kernel
theorem dX6_feed_57 : decode cX6_feed 57 = .ok (.getfield 79, 3) := by decide +kernel
theorem dX6_feed_60 : decode cX6_feed 60 = .ok (.lload_n 2, 1) := by decide +kernel
theorem dX6_feed_61 : decode cX6_feed 61 = .ok (.bipush 8, 2) := by decide +kernel
theorem dX6_feed_63 : decode cX6_feed 63 = .ok (.iload 4, 2) := by decide +kernel
theorem dX6_feed_65 : decode cX6_feed 65 = .ok (.imul, 1) := by decide +kernel
theorem dX6_feed_66 : decode cX6_feed 66 = .ok (.lshr, 1) := by decide +kernel
theorem dX6_feed_67 : decode cX6_feed 67 = .ok (.ldc2_w 82, 3) := by decide +kernel
theorem dX6_feed_70 : decode cX6_feed 70 = .ok (.land, 1) := by decide +kernel
theorem dX6_feed_71 : decode cX6_feed 71 = .ok (.l2i, 1) := by decide +kernel
theorem dX6_feed_72 : decode cX6_feed 72 = .ok (.iastore, 1) := by decide +kernel
theorem dX6_feed_73 : decode cX6_feed 73 = .ok (.aload_n 0, 1) := by decide +kernel
theorem dX6_feed_74 : decode cX6_feed 74 = .ok (.dup, 1) := by decide +kernel
theorem dX6_feed_75 : decode cX6_feed 75 = .ok (.getfield 79, 3) := by decide +kernel
theorem dX6_feed_78 : decode cX6_feed 78 = .ok (.iconst 1, 1) := by decide +kernel
theorem dX6_feed_79 : decode cX6_feed 79 = .ok (.iadd, 1) := by decide +kernel
theorem dX6_feed_80 : decode cX6_feed 80 = .ok (.putfield 79, 3) := by decide +kernel
theorem dX6_feed_83 : decode cX6_feed 83 = .ok (.iinc 4 1, 3) := by decide +kernel
theorem dX6_feed_86 : decode cX6_feed 86 = .ok (.goto (-40), 3) := by decide +kernel
theorem dX6_feed_89 : decode cX6_feed 89 = .ok (.aload_n 0, 1) := by decide +kernel
theorem dX6_feed_90 : decode cX6_feed 90 = .ok (.getfield 79, 3) := by decide +kernel
theorem dX6_feed_93 : decode cX6_feed 93 = .ok (.ireturn, 1) := by decide +kernel
theorem dX6_wipe_0 : decode cX6_wipe 0 = .ok (.aload_n 0, 1) := by decide +kernel
theorem dX6_wipe_1 : decode cX6_wipe 1 = .ok (.iconst 0, 1) := by decide +kernel
theorem dX6_wipe_2 : decode cX6_wipe 2 = .ok (.putfield 76, 3) := by decide +kernel
theorem dX6_wipe_5 : decode cX6_wipe 5 = .ok (.aload_n 0, 1) := by decide +kernel
theorem dX6_wipe_6 : decode cX6_wipe 6 = .ok (.getfield 79, 3) := by decide +kernel
theorem dX6_wipe_9 : decode cX6_wipe 9 = .ok (.istore_n 1, 1) := by decide +kernel
theorem dX6_wipe_10 : decode cX6_wipe 10 = .ok (.aload_n 0, 1) := by decide +kernel
theorem dX6_wipe_11 : decode cX6_wipe 11 = .ok (.iconst 0, 1) := by decide +kernel
theorem dX6_wipe_12 : decode cX6_wipe 12 = .ok (.putfield 79, 3) := by decide +kernel
theorem dX6_wipe_15 : decode cX6_wipe 15 = .ok (.iload_n 1, 1) := by decide +kernel
theorem dX6_wipe_16 : decode cX6_wipe 16 = .ok (.ireturn, 1) := by decide +kernel
theorem dX6_fail_0 : decode cX6_fail 0 = .ok (.aload_n 0, 1) := by decide +kernel
theorem dX6_fail_1 : decode cX6_fail 1 = .ok (.getfield 84, 3) := by decide +kernel
theorem dX6_fail_4 : decode cX6_fail 4 = .ok (.ifCond .ne 13, 3) := by decide +kernel
theorem dX6_fail_7 : decode cX6_fail 7 = .ok (.aload_n 0, 1) := by decide +kernel
theorem dX6_fail_8 : decode cX6_fail 8 = .ok (.iload_n 1, 1) := by decide +kernel
theorem dX6_fail_9 : decode cX6_fail 9 = .ok (.putfield 84, 3) := by decide +kernel
theorem dX6_fail_12 : decode cX6_fail 12 = .ok (.aload_n 0, 1) := by decide +kernel
theorem dX6_fail_13 : decode cX6_fail 13 = .ok (.iload_n 2, 1) := by decide +kernel
theorem dX6_fail_14 : decode cX6_fail 14 = .ok (.putfield 13, 3) := by decide +kernel
theorem dX6_fail_17 : decode cX6_fail 17 = .ok (.return_, 1) := by decide +kernel
theorem dX6_isLetter_0 : decode cX6_isLetter 0 = .ok (.iload_n 0, 1) := by decide +kernel
theorem dX6_isLetter_1 : decode cX6_isLetter 1 = .ok (.bipush 97, 2) := by decide +kernel
theorem dX6_isLetter_3 : decode cX6_isLetter 3 = .ok (.if_icmp .lt 13, 3) := by decide +kernel
theorem dX6_isLetter_6 : decode cX6_isLetter 6 = .ok (.iload_n 0, 1) := by decide +kernel
theorem dX6_isLetter_7 : decode cX6_isLetter 7 = .ok (.bipush 122, 2) := by decide +kernel
theorem dX6_isLetter_9 : decode cX6_isLetter 9 = .ok (.if_icmp .gt 7, 3) := by decide +kernel
theorem dX6_isLetter_12 : decode cX6_isLetter 12 = .ok (.iconst 1, 1) := by decide +kernel
theorem dX6_isLetter_13 : decode cX6_isLetter 13 = .ok (.goto 4, 3) := by decide +kernel
theorem dX6_isLetter_16 : decode cX6_isLetter 16 = .ok (.iconst 0, 1) := by decide +kernel
theorem dX6_isLetter_17 : decode cX6_isLetter 17 = .ok (.ireturn, 1) := by decide +kernel
theorem dX6_isFigure_0 : decode cX6_isFigure 0 = .ok (.iload_n 0, 1) := by decide +kernel
theorem dX6_isFigure_1 : decode cX6_isFigure 1 = .ok (.bipush 48, 2) := by decide +kernel
theorem dX6_isFigure_3 : decode cX6_isFigure 3 = .ok (.if_icmp .lt 13, 3) := by decide +kernel
theorem dX6_isFigure_6 : decode cX6_isFigure 6 = .ok (.iload_n 0, 1) := by decide +kernel
theorem dX6_isFigure_7 : decode cX6_isFigure 7 = .ok (.bipush 57, 2) := by decide +kernel
theorem dX6_isFigure_9 : decode cX6_isFigure 9 = .ok (.if_icmp .gt 7, 3) := by decide +kernel
theorem dX6_isFigure_12 : decode cX6_isFigure 12 = .ok (.iconst 1, 1) := by decide +kernel
theorem dX6_isFigure_13 : decode cX6_isFigure 13 = .ok (.goto 4, 3) := by decide +kernel
theorem dX6_isFigure_16 : decode cX6_isFigure 16 = .ok (.iconst 0, 1) := by decide +kernel
theorem dX6_isFigure_17 : decode cX6_isFigure 17 = .ok (.ireturn, 1) := by decide +kernel
theorem dX6_byteAt_0 : decode cX6_byteAt 0 = .ok (.iload_n 1, 1) := by decide +kernel
theorem dX6_byteAt_1 : decode cX6_byteAt 1 = .ok (.aload_n 0, 1) := by decide +kernel
theorem dX6_byteAt_2 : decode cX6_byteAt 2 = .ok (.getfield 79, 3) := by decide +kernel
theorem dX6_byteAt_5 : decode cX6_byteAt 5 = .ok (.if_icmp .ge 12, 3) := by decide +kernel
theorem dX6_byteAt_8 : decode cX6_byteAt 8 = .ok (.aload_n 0, 1) := by decide +kernel
theorem dX6_byteAt_9 : decode cX6_byteAt 9 = .ok (.getfield 7, 3) := by decide +kernel
theorem dX6_byteAt_12 : decode cX6_byteAt 12 = .ok (.iload_n 1, 1) := by decide +kernel
theorem dX6_byteAt_13 : decode cX6_byteAt 13 = .ok (.iaload, 1) := by decide +kernel
theorem dX6_byteAt_14 : decode cX6_byteAt 14 = .ok (.goto 4, 3) := by decide +kernel
theorem dX6_byteAt_17 : decode cX6_byteAt 17 = .ok (.iconst (-1), 1) := by decide +kernel
theorem dX6_byteAt_18 : decode cX6_byteAt 18 = .ok (.ireturn, 1) := by decide +kernel
theorem dX6_peek_0 : decode cX6_peek 0 = .ok (.aload_n 0, 1) := by decide +kernel
theorem dX6_peek_1 : decode cX6_peek 1 = .ok (.getfield 87, 3) := by decide +kernel
theorem dX6_peek_4 : decode cX6_peek 4 = .ok (.aload_n 0, 1) := by decide +kernel
theorem dX6_peek_5 : decode cX6_peek 5 = .ok (.getfield 79, 3) := by decide +kernel
theorem dX6_peek_8 : decode cX6_peek 8 = .ok (.if_icmp .ge 30, 3) := by decide +kernel
theorem dX6_peek_11 : decode cX6_peek 11 = .ok (.aload_n 0, 1) := by decide +kernel
theorem dX6_peek_12 : decode cX6_peek 12 = .ok (.getfield 7, 3) := by decide +kernel
theorem dX6_peek_15 : decode cX6_peek 15 = .ok (.aload_n 0, 1) := by decide +kernel
theorem dX6_peek_16 : decode cX6_peek 16 = .ok (.getfield 87, 3) := by decide +kernel
theorem dX6_peek_19 : decode cX6_peek 19 = .ok (.iaload, 1) := by decide +kernel
theorem dX6_peek_20 : decode cX6_peek 20 = .ok (.bipush 32, 2) := by decide +kernel
theorem dX6_peek_22 : decode cX6_peek 22 = .ok (.if_icmp .gt 16, 3) := by decide +kernel
theorem dX6_peek_25 : decode cX6_peek 25 = .ok (.aload_n 0, 1) := by decide +kernel
theorem dX6_peek_26 : decode cX6_peek 26 = .ok (.dup, 1) := by decide +kernel
theorem dX6_peek_27 : decode cX6_peek 27 = .ok (.getfield 87, 3) := by decide +kernel
theorem dX6_peek_30 : decode cX6_peek 30 = .ok (.iconst 1, 1) := by decide +kernel
theorem dX6_peek_31 : decode cX6_peek 31 = .ok (.iadd, 1) := by decide +kernel
theorem dX6_peek_32 : decode cX6_peek 32 = .ok (.putfield 87, 3) := by decide +kernel
theorem dX6_peek_35 : decode cX6_peek 35 = .ok (.goto (-35), 3) := by decide +kernel
theorem dX6_peek_38 : decode cX6_peek 38 = .ok (.aload_n 0, 1) := by decide +kernel
theorem dX6_peek_39 : decode cX6_peek 39 = .ok (.aload_n 0, 1) := by decide +kernel
theorem dX6_peek_40 : decode cX6_peek 40 = .ok (.getfield 87, 3) := by decide +kernel
theorem dX6_peek_43 : decode cX6_peek 43 = .ok (.invokevirtual 90, 3) := by decide +kernel
theorem dX6_peek_46 : decode cX6_peek 46 = .ok (.ireturn, 1) := by decide +kernel
theorem dX6_tokenSize_0 : decode cX6_tokenSize 0 = .ok (.iconst 0, 1) := by decide +kernel
theorem dX6_tokenSize_1 : decode cX6_tokenSize 1 = .ok (.istore_n 1, 1) := by decide +kernel
theorem dX6_tokenSize_2 : decode cX6_tokenSize 2 = .ok (.aload_n 0, 1) := by decide +kernel
theorem dX6_tokenSize_3 : decode cX6_tokenSize 3 = .ok (.aload_n 0, 1) := by decide +kernel
theorem dX6_tokenSize_4 : decode cX6_tokenSize 4 = .ok (.getfield 87, 3) := by decide +kernel
theorem dX6_tokenSize_7 : decode cX6_tokenSize 7 = .ok (.iload_n 1, 1) := by decide +kernel
theorem dX6_tokenSize_8 : decode cX6_tokenSize 8 = .ok (.iadd, 1) := by decide +kernel
theorem dX6_tokenSize_9 : decode cX6_tokenSize 9 = .ok (.invokevirtual 90, 3) := by decide +kernel
theorem dX6_tokenSize_12 : decode cX6_tokenSize 12 = .ok (.invokestatic 94, 3) := by decide +kernel
theorem dX6_tokenSize_15 : decode cX6_tokenSize 15 = .ok (.ifCond .ne 19, 3) := by decide +kernel
theorem dX6_tokenSize_18 : decode cX6_tokenSize 18 = .ok (.aload_n 0, 1) := by decide +kernel
theorem dX6_tokenSize_19 : decode cX6_tokenSize 19 = .ok (.aload_n 0, 1) := by decide +kernel
theorem dX6_tokenSize_20 : decode cX6_tokenSize 20 = .ok (.getfield 87, 3) := by decide +kernel
theorem dX6_tokenSize_23 : decode cX6_tokenSize 23 = .ok (.iload_n 1, 1) := by decide +kernel
theorem dX6_tokenSize_24 : decode cX6_tokenSize 24 = .ok (.iadd, 1) := by decide +kernel
theorem dX6_tokenSize_25 : decode cX6_tokenSize 25 = .ok (.invokevirtual 90, 3) := by decide +kernel
theorem dX6_tokenSize_28 : decode cX6_tokenSize 28 = .ok (.invokestatic 98, 3) := by decide +kernel
theorem dX6_tokenSize_31 : decode cX6_tokenSize 31 = .ok (.ifCond .eq 9, 3) := by decide +kernel
theorem dX6_tokenSize_34 : decode cX6_tokenSize 34 = .ok (.iinc 1 1, 3) := by decide +kernel
theorem dX6_tokenSize_37 : decode cX6_tokenSize 37 = .ok (.goto (-35), 3) := by decide +kernel
theorem dX6_tokenSize_40 : decode cX6_tokenSize 40 = .ok (.iload_n 1, 1) := by decide +kernel
theorem dX6_tokenSize_41 : decode cX6_tokenSize 41 = .ok (.ireturn, 1) := by decide +kernel
theorem dX6_token_0 : decode cX6_token 0 = .ok (.aload_n 0, 1) := by decide +kernel
theorem dX6_token_1 : decode cX6_token 1 = .ok (.invokevirtual 101, 3) := by decide +kernel
theorem dX6_token_4 : decode cX6_token 4 = .ok (.istore_n 1, 1) := by decide +kernel
theorem dX6_token_5 : decode cX6_token 5 = .ok (.aload_n 0, 1) := by decide +kernel
theorem dX6_token_6 : decode cX6_token 6 = .ok (.invokevirtual 105, 3) := by decide +kernel
theorem dX6_token_9 : decode cX6_token 9 = .ok (.istore_n 2, 1) := by decide +kernel
theorem dX6_token_10 : decode cX6_token 10 = .ok (.iconst 0, 1) := by decide +kernel
theorem dX6_token_11 : decode cX6_token 11 = .ok (.istore_n 3, 1) := by decide +kernel
theorem dX6_token_12 : decode cX6_token 12 = .ok (.iconst 0, 1) := by decide +kernel
theorem dX6_token_13 : decode cX6_token 13 = .ok (.istore 4, 2) := by decide +kernel
theorem dX6_token_15 : decode cX6_token 15 = .ok (.iload 4, 2) := by decide +kernel
theorem dX6_token_17 : decode cX6_token 17 = .ok (.iload_n 2, 1) := by decide +kernel
theorem dX6_token_18 : decode cX6_token 18 = .ok (.if_icmp .ge 31, 3) := by decide +kernel
theorem dX6_token_21 : decode cX6_token 21 = .ok (.iload_n 2, 1) := by decide +kernel
theorem dX6_token_22 : decode cX6_token 22 = .ok (.iconst 4, 1) := by decide +kernel
theorem dX6_token_23 : decode cX6_token 23 = .ok (.if_icmp .gt 26, 3) := by decide +kernel
theorem dX6_token_26 : decode cX6_token 26 = .ok (.iload_n 3, 1) := by decide +kernel
theorem dX6_token_27 : decode cX6_token 27 = .ok (.bipush 8, 2) := by decide +kernel
theorem dX6_token_29 : decode cX6_token 29 = .ok (.ishl, 1) := by decide +kernel
theorem dX6_token_30 : decode cX6_token 30 = .ok (.aload_n 0, 1) := by decide +kernel
theorem dX6_token_31 : decode cX6_token 31 = .ok (.aload_n 0, 1) := by decide +kernel
theorem dX6_token_32 : decode cX6_token 32 = .ok (.getfield 87, 3) := by decide +kernel
theorem dX6_token_35 : decode cX6_token 35 = .ok (.iload 4, 2) := by decide +kernel
theorem dX6_token_37 : decode cX6_token 37 = .ok (.iadd, 1) := by decide +kernel
theorem dX6_token_38 : decode cX6_token 38 = .ok (.invokevirtual 90, 3) := by decide +kernel
theorem dX6_token_41 : decode cX6_token 41 = .ok (.ior, 1) := by decide +kernel
theorem dX6_token_42 : decode cX6_token 42 = .ok (.istore_n 3, 1) := by decide +kernel
theorem dX6_token_43 : decode cX6_token 43 = .ok (.iinc 4 1, 3) := by decide +kernel
theorem dX6_token_46 : decode cX6_token 46 = .ok (.goto (-31), 3) := by decide +kernel
theorem dX6_token_49 : decode cX6_token 49 = .ok (.iload_n 1, 1) := by decide +kernel
theorem dX6_token_50 : decode cX6_token 50 = .ok (.ifCond .ge 7, 3) := by decide +kernel
theorem dX6_token_53 : decode cX6_token 53 = .ok (.iconst 0, 1) := by decide +kernel
theorem dX6_token_54 : decode cX6_token 54 = .ok (.goto 4, 3) := by decide +kernel
theorem dX6_token_57 : decode cX6_token 57 = .ok (.iload_n 3, 1) := by decide +kernel
theorem dX6_token_58 : decode cX6_token 58 = .ok (.ireturn, 1) := by decide +kernel
theorem dX6_isName_0 : decode cX6_isName 0 = .ok (.aload_n 0, 1) := by decide +kernel
theorem dX6_isName_1 : decode cX6_isName 1 = .ok (.invokevirtual 101, 3) := by decide +kernel
theorem dX6_isName_4 : decode cX6_isName 4 = .ok (.istore_n 1, 1) := by decide +kernel
theorem dX6_isName_5 : decode cX6_isName 5 = .ok (.aload_n 0, 1) := by decide +kernel
theorem dX6_isName_6 : decode cX6_isName 6 = .ok (.invokevirtual 105, 3) := by decide +kernel
theorem dX6_isName_9 : decode cX6_isName 9 = .ok (.istore_n 2, 1) := by decide +kernel
theorem dX6_isName_10 : decode cX6_isName 10 = .ok (.iload_n 1, 1) := by decide +kernel
theorem dX6_isName_11 : decode cX6_isName 11 = .ok (.invokestatic 94, 3) := by decide +kernel
theorem dX6_isName_14 : decode cX6_isName 14 = .ok (.ifCond .eq 33, 3) := by decide +kernel
theorem dX6_isName_17 : decode cX6_isName 17 = .ok (.iload_n 2, 1) := by decide +kernel
theorem dX6_isName_18 : decode cX6_isName 18 = .ok (.iconst 1, 1) := by decide +kernel
theorem dX6_isName_19 : decode cX6_isName 19 = .ok (.if_icmp .eq 24, 3) := by decide +kernel
theorem dX6_isName_22 : decode cX6_isName 22 = .ok (.iload_n 2, 1) := by decide +kernel
theorem dX6_isName_23 : decode cX6_isName 23 = .ok (.iconst 2, 1) := by decide +kernel
theorem dX6_isName_24 : decode cX6_isName 24 = .ok (.if_icmp .ne 23, 3) := by decide +kernel
theorem dX6_isName_27 : decode cX6_isName 27 = .ok (.aload_n 0, 1) := by decide +kernel
theorem dX6_isName_28 : decode cX6_isName 28 = .ok (.aload_n 0, 1) := by decide +kernel
theorem dX6_isName_29 : decode cX6_isName 29 = .ok (.getfield 87, 3) := by decide +kernel
theorem dX6_isName_32 : decode cX6_isName 32 = .ok (.iconst 1, 1) := by decide +kernel
theorem dX6_isName_33 : decode cX6_isName 33 = .ok (.iadd, 1) := by decide +kernel
theorem dX6_isName_34 : decode cX6_isName 34 = .ok (.invokevirtual 90, 3) := by decide +kernel
theorem dX6_isName_37 : decode cX6_isName 37 = .ok (.invokestatic 98, 3) := by decide +kernel
theorem dX6_isName_40 : decode cX6_isName 40 = .ok (.ifCond .eq 7, 3) := by decide +kernel
theorem dX6_isName_43 : decode cX6_isName 43 = .ok (.iconst 1, 1) := by decide +kernel
theorem dX6_isName_44 : decode cX6_isName 44 = .ok (.goto 4, 3) := by decide +kernel
theorem dX6_isName_47 : decode cX6_isName 47 = .ok (.iconst 0, 1) := by decide +kernel
theorem dX6_isName_48 : decode cX6_isName 48 = .ok (.ireturn, 1) := by decide +kernel
theorem dX6_want_0 : decode cX6_want 0 = .ok (.aload_n 0, 1) := by decide +kernel
theorem dX6_want_1 : decode cX6_want 1 = .ok (.getfield 84, 3) := by decide +kernel
theorem dX6_want_4 : decode cX6_want 4 = .ok (.ifCond .ne 33, 3) := by decide +kernel
theorem dX6_want_7 : decode cX6_want 7 = .ok (.aload_n 0, 1) := by decide +kernel
theorem dX6_want_8 : decode cX6_want 8 = .ok (.invokevirtual 101, 3) := by decide +kernel
theorem dX6_want_11 : decode cX6_want 11 = .ok (.iload_n 1, 1) := by decide +kernel
theorem dX6_want_12 : decode cX6_want 12 = .ok (.if_icmp .ne 16, 3) := by decide +kernel
theorem dX6_want_15 : decode cX6_want 15 = .ok (.aload_n 0, 1) := by decide +kernel
theorem dX6_want_16 : decode cX6_want 16 = .ok (.dup, 1) := by decide +kernel
theorem dX6_want_17 : decode cX6_want 17 = .ok (.getfield 87, 3) := by decide +kernel
theorem dX6_want_20 : decode cX6_want 20 = .ok (.iconst 1, 1) := by decide +kernel
theorem dX6_want_21 : decode cX6_want 21 = .ok (.iadd, 1) := by decide +kernel
theorem dX6_want_22 : decode cX6_want 22 = .ok (.putfield 87, 3) := by decide +kernel
theorem dX6_want_25 : decode cX6_want 25 = .ok (.goto 12, 3) := by decide +kernel
theorem dX6_want_28 : decode cX6_want 28 = .ok (.aload_n 0, 1) := by decide +kernel
theorem dX6_want_29 : decode cX6_want 29 = .ok (.iconst 1, 1) := by decide +kernel
theorem dX6_want_30 : decode cX6_want 30 = .ok (.aload_n 0, 1) := by decide +kernel
theorem dX6_want_31 : decode cX6_want 31 = .ok (.getfield 87, 3) := by decide +kernel
theorem dX6_want_34 : decode cX6_want 34 = .ok (.invokevirtual 108, 3) := by decide +kernel
theorem dX6_want_37 : decode cX6_want 37 = .ok (.return_, 1) := by decide +kernel
theorem dX6_wantToken_0 : decode cX6_wantToken 0 = .ok (.aload_n 0, 1) := by decide +kernel
theorem dX6_wantToken_1 : decode cX6_wantToken 1 = .ok (.getfield 84, 3) := by decide +kernel
theorem dX6_wantToken_4 : decode cX6_wantToken 4 = .ok (.ifCond .ne 33, 3) := by decide +kernel
theorem dX6_wantToken_7 : decode cX6_wantToken 7 = .ok (.aload_n 0, 1) := by decide +kernel
theorem dX6_wantToken_8 : decode cX6_wantToken 8 = .ok (.invokevirtual 112, 3) := by decide +kernel
theorem dX6_wantToken_11 : decode cX6_wantToken 11 = .ok (.iload_n 1, 1) := by decide +kernel
theorem dX6_wantToken_12 : decode cX6_wantToken 12 = .ok (.if_icmp .ne 16, 3) := by decide +kernel
theorem dX6_wantToken_15 : decode cX6_wantToken 15 = .ok (.aload_n 0, 1) := by decide +kernel
theorem dX6_wantToken_16 : decode cX6_wantToken 16 = .ok (.dup, 1) := by decide +kernel
theorem dX6_wantToken_17 : decode cX6_wantToken 17 = .ok (.getfield 87, 3) := by decide +kernel
theorem dX6_wantToken_20 : decode cX6_wantToken 20 = .ok (.iload_n 2, 1) := by decide +kernel
theorem dX6_wantToken_21 : decode cX6_wantToken 21 = .ok (.iadd, 1) := by decide +kernel
theorem dX6_wantToken_22 : decode cX6_wantToken 22 = .ok (.putfield 87, 3) := by decide +kernel
theorem dX6_wantToken_25 : decode cX6_wantToken 25 = .ok (.goto 12, 3) := by decide +kernel
theorem dX6_wantToken_28 : decode cX6_wantToken 28 = .ok (.aload_n 0, 1) := by decide +kernel
theorem dX6_wantToken_29 : decode cX6_wantToken 29 = .ok (.iconst 1, 1) := by decide +kernel
theorem dX6_wantToken_30 : decode cX6_wantToken 30 = .ok (.aload_n 0, 1) := by decide +kernel
theorem dX6_wantToken_31 : decode cX6_wantToken 31 = .ok (.getfield 87, 3) := by decide +kernel
theorem dX6_wantToken_34 : decode cX6_wantToken 34 = .ok (.invokevirtual 108, 3) := by decide +kernel
theorem dX6_wantToken_37 : decode cX6_wantToken 37 = .ok (.return_, 1) := by decide +kernel
theorem dX6_find_0 : decode cX6_find 0 = .ok (.iconst 0, 1) := by decide +kernel
theorem dX6_find_1 : decode cX6_find 1 = .ok (.istore_n 2, 1) := by decide +kernel
theorem dX6_find_2 : decode cX6_find 2 = .ok (.iload_n 2, 1) := by decide +kernel
theorem dX6_find_3 : decode cX6_find 3 = .ok (.aload_n 0, 1) := by decide +kernel
theorem dX6_find_4 : decode cX6_find 4 = .ok (.getfield 115, 3) := by decide +kernel
theorem dX6_find_7 : decode cX6_find 7 = .ok (.if_icmp .ge 21, 3) := by decide +kernel
theorem dX6_find_10 : decode cX6_find 10 = .ok (.aload_n 0, 1) := by decide +kernel
theorem dX6_find_11 : decode cX6_find 11 = .ok (.getfield 17, 3) := by decide +kernel
theorem dX6_find_14 : decode cX6_find 14 = .ok (.iload_n 2, 1) := by decide +kernel
theorem dX6_find_15 : decode cX6_find 15 = .ok (.iaload, 1) := by decide +kernel
theorem dX6_find_16 : decode cX6_find 16 = .ok (.iload_n 1, 1) := by decide +kernel
theorem dX6_find_17 : decode cX6_find 17 = .ok (.if_icmp .ne 5, 3) := by decide +kernel
theorem dX6_find_20 : decode cX6_find 20 = .ok (.iload_n 2, 1) := by decide +kernel
theorem dX6_find_21 : decode cX6_find 21 = .ok (.ireturn, 1) := by decide +kernel
theorem dX6_find_22 : decode cX6_find 22 = .ok (.iinc 2 1, 3) := by decide +kernel
theorem dX6_find_25 : decode cX6_find 25 = .ok (.goto (-23), 3) := by decide +kernel
theorem dX6_find_28 : decode cX6_find 28 = .ok (.iconst (-1), 1) := by decide +kernel
theorem dX6_find_29 : decode cX6_find 29 = .ok (.ireturn, 1) := by decide +kernel
theorem dX6_sources_0 : decode cX6_sources 0 = .ok (.aload_n 0, 1) := by decide +kernel
theorem dX6_sources_1 : decode cX6_sources 1 = .ok (.getfield 84, 3) := by decide +kernel
theorem dX6_sources_4 : decode cX6_sources 4 = .ok (.ifCond .ne 16, 3) := by decide +kernel
theorem dX6_sources_7 : decode cX6_sources 7 = .ok (.aload_n 0, 1) := by decide +kernel
theorem dX6_sources_8 : decode cX6_sources 8 = .ok (.invokevirtual 101, 3) := by decide +kernel
theorem dX6_sources_11 : decode cX6_sources 11 = .ok (.bipush 59, 2) := by decide +kernel
theorem dX6_sources_13 : decode cX6_sources 13 = .ok (.if_icmp .eq 7, 3) := by decide +kernel
theorem dX6_sources_16 : decode cX6_sources 16 = .ok (.iconst 1, 1) := by decide +kernel
theorem dX6_sources_17 : decode cX6_sources 17 = .ok (.goto 4, 3) := by decide +kernel
theorem dX6_sources_20 : decode cX6_sources 20 = .ok (.iconst 0, 1) := by decide +kernel
theorem dX6_sources_21 : decode cX6_sources 21 = .ok (.istore_n 2, 1) := by decide +kernel
theorem dX6_sources_22 : decode cX6_sources 22 = .ok (.iload_n 2, 1) := by decide +kernel
theorem dX6_sources_23 : decode cX6_sources 23 = .ok (.ifCond .eq 195, 3) := by decide +kernel
theorem dX6_sources_26 : decode cX6_sources 26 = .ok (.aload_n 0, 1) := by decide +kernel
theorem dX6_sources_27 : decode cX6_sources 27 = .ok (.getfield 84, 3) := by decide +kernel
theorem dX6_sources_30 : decode cX6_sources 30 = .ok (.ifCond .ne 188, 3) := by decide +kernel
theorem dX6_sources_33 : decode cX6_sources 33 = .ok (.aload_n 0, 1) := by decide +kernel
theorem dX6_sources_34 : decode cX6_sources 34 = .ok (.invokevirtual 118, 3) := by decide +kernel
theorem dX6_sources_37 : decode cX6_sources 37 = .ok (.ifCond .ne 13, 3) := by decide +kernel
theorem dX6_sources_40 : decode cX6_sources 40 = .ok (.aload_n 0, 1) := by decide +kernel
theorem dX6_sources_41 : decode cX6_sources 41 = .ok (.iconst 1, 1) := by decide +kernel
theorem dX6_sources_42 : decode cX6_sources 42 = .ok (.aload_n 0, 1) := by decide +kernel
theorem dX6_sources_43 : decode cX6_sources 43 = .ok (.getfield 87, 3) := by decide +kernel
theorem dX6_sources_46 : decode cX6_sources 46 = .ok (.invokevirtual 108, 3) := by decide +kernel
theorem dX6_sources_49 : decode cX6_sources 49 = .ok (.return_, 1) := by decide +kernel
theorem dX6_sources_50 : decode cX6_sources 50 = .ok (.aload_n 0, 1) := by decide +kernel
theorem dX6_sources_51 : decode cX6_sources 51 = .ok (.invokevirtual 112, 3) := by decide +kernel
theorem dX6_sources_54 : decode cX6_sources 54 = .ok (.istore_n 3, 1) := by decide +kernel
theorem dX6_sources_55 : decode cX6_sources 55 = .ok (.aload_n 0, 1) := by decide +kernel
theorem dX6_sources_56 : decode cX6_sources 56 = .ok (.iload_n 3, 1) := by decide +kernel
theorem dX6_sources_57 : decode cX6_sources 57 = .ok (.invokevirtual 122, 3) := by decide +kernel
theorem dX6_sources_60 : decode cX6_sources 60 = .ok (.ifCond .lt 15, 3) := by decide +kernel
theorem dX6_sources_63 : decode cX6_sources 63 = .ok (.aload_n 0, 1) := by decide +kernel
theorem dX6_sources_64 : decode cX6_sources 64 = .ok (.iconst 3, 1) := by decide +kernel
theorem dX6_sources_65 : decode cX6_sources 65 = .ok (.aload_n 0, 1) := by decide +kernel
theorem dX6_sources_66 : decode cX6_sources 66 = .ok (.getfield 87, 3) := by decide +kernel
theorem dX6_sources_69 : decode cX6_sources 69 = .ok (.invokevirtual 108, 3) := by decide +kernel
theorem dX6_sources_72 : decode cX6_sources 72 = .ok (.goto 26, 3) := by decide +kernel
theorem dX6_sources_75 : decode cX6_sources 75 = .ok (.aload_n 0, 1) := by decide +kernel
theorem dX6_sources_76 : decode cX6_sources 76 = .ok (.getfield 125, 3) := by decide +kernel
theorem dX6_sources_79 : decode cX6_sources 79 = .ok (.aload_n 0, 1) := by decide +kernel
theorem dX6_sources_80 : decode cX6_sources 80 = .ok (.getfield 128, 3) := by decide +kernel
theorem dX6_sources_83 : decode cX6_sources 83 = .ok (.iadd, 1) := by decide +kernel
theorem dX6_sources_84 : decode cX6_sources 84 = .ok (.bipush 10, 2) := by decide +kernel
theorem dX6_sources_86 : decode cX6_sources 86 = .ok (.if_icmp .ne 12, 3) := by decide +kernel
theorem dX6_sources_89 : decode cX6_sources 89 = .ok (.aload_n 0, 1) := by decide +kernel
theorem dX6_sources_90 : decode cX6_sources 90 = .ok (.iconst 4, 1) := by decide +kernel
theorem dX6_sources_91 : decode cX6_sources 91 = .ok (.aload_n 0, 1) := by decide +kernel
theorem dX6_sources_92 : decode cX6_sources 92 = .ok (.getfield 87, 3) := by decide +kernel
theorem dX6_sources_95 : decode cX6_sources 95 = .ok (.invokevirtual 108, 3) := by decide +kernel
theorem dX6_sources_98 : decode cX6_sources 98 = .ok (.aload_n 0, 1) := by decide +kernel
theorem dX6_sources_99 : decode cX6_sources 99 = .ok (.getfield 84, 3) := by decide +kernel
theorem dX6_sources_102 : decode cX6_sources 102 = .ok (.ifCond .le 4, 3) := by decide +kernel
theorem dX6_sources_105 : decode cX6_sources 105 = .ok (.return_, 1) := by decide +kernel
theorem dX6_sources_106 : decode cX6_sources 106 = .ok (.aload_n 0, 1) := by decide +kernel
theorem dX6_sources_107 : decode cX6_sources 107 = .ok (.getfield 17, 3) := by decide +kernel
theorem dX6_sources_110 : decode cX6_sources 110 = .ok (.aload_n 0, 1) := by decide +kernel
theorem dX6_sources_111 : decode cX6_sources 111 = .ok (.getfield 115, 3) := by decide +kernel
theorem dX6_sources_114 : decode cX6_sources 114 = .ok (.iload_n 3, 1) := by decide +kernel
theorem dX6_sources_115 : decode cX6_sources 115 = .ok (.iastore, 1) := by decide +kernel
theorem dX6_sources_116 : decode cX6_sources 116 = .ok (.aload_n 0, 1) := by decide +kernel
theorem dX6_sources_117 : decode cX6_sources 117 = .ok (.getfield 20, 3) := by decide +kernel
theorem dX6_sources_120 : decode cX6_sources 120 = .ok (.aload_n 0, 1) := by decide +kernel
theorem dX6_sources_121 : decode cX6_sources 121 = .ok (.getfield 115, 3) := by decide +kernel
theorem dX6_sources_124 : decode cX6_sources 124 = .ok (.iconst (-1), 1) := by decide +kernel
theorem dX6_sources_125 : decode cX6_sources 125 = .ok (.iastore, 1) := by decide +kernel
theorem dX6_sources_126 : decode cX6_sources 126 = .ok (.aload_n 0, 1) := by decide +kernel
theorem dX6_sources_127 : decode cX6_sources 127 = .ok (.dup, 1) := by decide +kernel
theorem dX6_sources_128 : decode cX6_sources 128 = .ok (.getfield 115, 3) := by decide +kernel
theorem dX6_sources_131 : decode cX6_sources 131 = .ok (.iconst 1, 1) := by decide +kernel
theorem dX6_sources_132 : decode cX6_sources 132 = .ok (.iadd, 1) := by decide +kernel
theorem dX6_sources_133 : decode cX6_sources 133 = .ok (.putfield 115, 3) := by decide +kernel
theorem dX6_sources_136 : decode cX6_sources 136 = .ok (.aload_n 0, 1) := by decide +kernel
theorem dX6_sources_137 : decode cX6_sources 137 = .ok (.dup, 1) := by decide +kernel
theorem dX6_sources_138 : decode cX6_sources 138 = .ok (.getfield 87, 3) := by decide +kernel
theorem dX6_sources_141 : decode cX6_sources 141 = .ok (.aload_n 0, 1) := by decide +kernel
theorem dX6_sources_142 : decode cX6_sources 142 = .ok (.invokevirtual 105, 3) := by decide +kernel
theorem dX6_sources_145 : decode cX6_sources 145 = .ok (.iadd, 1) := by decide +kernel
theorem dX6_sources_146 : decode cX6_sources 146 = .ok (.putfield 87, 3) := by decide +kernel
theorem dX6_sources_149 : decode cX6_sources 149 = .ok (.iload_n 1, 1) := by decide +kernel
theorem dX6_sources_150 : decode cX6_sources 150 = .ok (.ifCond .eq 16, 3) := by decide +kernel
theorem dX6_sources_153 : decode cX6_sources 153 = .ok (.aload_n 0, 1) := by decide +kernel
theorem dX6_sources_154 : decode cX6_sources 154 = .ok (.dup, 1) := by decide +kernel
theorem dX6_sources_155 : decode cX6_sources 155 = .ok (.getfield 125, 3) := by decide +kernel
theorem dX6_sources_158 : decode cX6_sources 158 = .ok (.iconst 1, 1) := by decide +kernel
theorem dX6_sources_159 : decode cX6_sources 159 = .ok (.iadd, 1) := by decide +kernel
theorem dX6_sources_160 : decode cX6_sources 160 = .ok (.putfield 125, 3) := by decide +kernel
theorem dX6_sources_163 : decode cX6_sources 163 = .ok (.goto 23, 3) := by decide +kernel
theorem dX6_sources_166 : decode cX6_sources 166 = .ok (.aload_n 0, 1) := by decide +kernel
theorem dX6_sources_167 : decode cX6_sources 167 = .ok (.getfield 29, 3) := by decide +kernel
theorem dX6_sources_170 : decode cX6_sources 170 = .ok (.aload_n 0, 1) := by decide +kernel
theorem dX6_sources_171 : decode cX6_sources 171 = .ok (.getfield 128, 3) := by decide +kernel
theorem dX6_sources_174 : decode cX6_sources 174 = .ok (.iconst (-1), 1) := by decide +kernel
theorem dX6_sources_175 : decode cX6_sources 175 = .ok (.iastore, 1) := by decide +kernel
theorem dX6_sources_176 : decode cX6_sources 176 = .ok (.aload_n 0, 1) := by decide +kernel
theorem dX6_sources_177 : decode cX6_sources 177 = .ok (.dup, 1) := by decide +kernel
theorem dX6_sources_178 : decode cX6_sources 178 = .ok (.getfield 128, 3) := by decide +kernel
theorem dX6_sources_181 : decode cX6_sources 181 = .ok (.iconst 1, 1) := by decide +kernel
theorem dX6_sources_182 : decode cX6_sources 182 = .ok (.iadd, 1) := by decide +kernel
theorem dX6_sources_183 : decode cX6_sources 183 = .ok (.putfield 128, 3) := by decide +kernel
theorem dX6_sources_186 : decode cX6_sources 186 = .ok (.aload_n 0, 1) := by decide +kernel
theorem dX6_sources_187 : decode cX6_sources 187 = .ok (.invokevirtual 101, 3) := by decide +kernel
theorem dX6_sources_190 : decode cX6_sources 190 = .ok (.bipush 44, 2) := by decide +kernel
theorem dX6_sources_192 : decode cX6_sources 192 = .ok (.if_icmp .ne 7, 3) := by decide +kernel
theorem dX6_sources_195 : decode cX6_sources 195 = .ok (.iconst 1, 1) := by decide +kernel
theorem dX6_sources_196 : decode cX6_sources 196 = .ok (.goto 4, 3) := by decide +kernel
theorem dX6_sources_199 : decode cX6_sources 199 = .ok (.iconst 0, 1) := by decide +kernel
theorem dX6_sources_200 : decode cX6_sources 200 = .ok (.istore_n 2, 1) := by decide +kernel
theorem dX6_sources_201 : decode cX6_sources 201 = .ok (.iload_n 2, 1) := by decide +kernel
theorem dX6_sources_202 : decode cX6_sources 202 = .ok (.ifCond .eq 13, 3) := by decide +kernel
theorem dX6_sources_205 : decode cX6_sources 205 = .ok (.aload_n 0, 1) := by decide +kernel
theorem dX6_sources_206 : decode cX6_sources 206 = .ok (.dup, 1) := by decide +kernel
theorem dX6_sources_207 : decode cX6_sources 207 = .ok (.getfield 87, 3) := by decide +kernel
theorem dX6_sources_210 : decode cX6_sources 210 = .ok (.iconst 1, 1) := by decide +kernel
theorem dX6_sources_211 : decode cX6_sources 211 = .ok (.iadd, 1) := by decide +kernel
theorem dX6_sources_212 : decode cX6_sources 212 = .ok (.putfield 87, 3) := by decide +kernel
theorem dX6_sources_215 : decode cX6_sources 215 = .ok (.goto (-193), 3) := by decide +kernel
theorem dX6_sources_218 : decode cX6_sources 218 = .ok (.aload_n 0, 1) := by decide +kernel
theorem dX6_sources_219 : decode cX6_sources 219 = .ok (.bipush 59, 2) := by decide +kernel
theorem dX6_sources_221 : decode cX6_sources 221 = .ok (.invokevirtual 131, 3) := by decide +kernel
theorem dX6_sources_224 : decode cX6_sources 224 = .ok (.return_, 1) := by decide +kernel
theorem dX6_operation_0 : decode cX6_operation 0 = .ok (.aload_n 0, 1) := by decide +kernel
theorem dX6_operation_1 : decode cX6_operation 1 = .ok (.invokevirtual 112, 3) := by decide +kernel
theorem dX6_operation_4 : decode cX6_operation 4 = .ok (.istore_n 1, 1) := by decide +kernel
theorem dX6_operation_5 : decode cX6_operation 5 = .ok (.iload_n 1, 1) := by decide +kernel
theorem dX6_operation_6 : decode cX6_operation 6 = .ok (.lookupswitch 92 #[(28530, 76), (6385252, 74), (6452582, 86), (7173496, 89), (7237490, 82), (7237492, 84), (7892850, 78), (1851879012, 80)], 74) := by decide +kernel
theorem dX6_operation_80 : decode cX6_operation 80 = .ok (.iconst 0, 1) := by decide +kernel
theorem dX6_operation_81 : decode cX6_operation 81 = .ok (.ireturn, 1) := by decide +kernel
theorem dX6_operation_82 : decode cX6_operation 82 = .ok (.iconst 1, 1) := by decide +kernel
theorem dX6_operation_83 : decode cX6_operation 83 = .ok (.ireturn, 1) := by decide +kernel
theorem dX6_operation_84 : decode cX6_operation 84 = .ok (.iconst 2, 1) := by decide +kernel
theorem dX6_operation_85 : decode cX6_operation 85 = .ok (.ireturn, 1) := by decide +kernel
theorem dX6_operation_86 : decode cX6_operation 86 = .ok (.iconst 3, 1) := by decide +kernel
theorem dX6_operation_87 : decode cX6_operation 87 = .ok (.ireturn, 1) := by decide +kernel
theorem dX6_operation_88 : decode cX6_operation 88 = .ok (.iconst 4, 1) := by decide +kernel
theorem dX6_operation_89 : decode cX6_operation 89 = .ok (.ireturn, 1) := by decide +kernel
theorem dX6_operation_90 : decode cX6_operation 90 = .ok (.iconst 5, 1) := by decide +kernel
theorem dX6_operation_91 : decode cX6_operation 91 = .ok (.ireturn, 1) := by decide +kernel
theorem dX6_operation_92 : decode cX6_operation 92 = .ok (.bipush 6, 2) := by decide +kernel
theorem dX6_operation_94 : decode cX6_operation 94 = .ok (.ireturn, 1) := by decide +kernel
theorem dX6_operation_95 : decode cX6_operation 95 = .ok (.bipush 7, 2) := by decide +kernel
theorem dX6_operation_97 : decode cX6_operation 97 = .ok (.ireturn, 1) := by decide +kernel
theorem dX6_operation_98 : decode cX6_operation 98 = .ok (.iconst (-1), 1) := by decide +kernel
theorem dX6_operation_99 : decode cX6_operation 99 = .ok (.ireturn, 1) := by decide +kernel
theorem dX6_givenName_0 : decode cX6_givenName 0 = .ok (.aload_n 0, 1) := by decide +kernel
theorem dX6_givenName_1 : decode cX6_givenName 1 = .ok (.getfield 84, 3) := by decide +kernel
theorem dX6_givenName_4 : decode cX6_givenName 4 = .ok (.ifCond .le 5, 3) := by decide +kernel
theorem dX6_givenName_7 : decode cX6_givenName 7 = .ok (.iconst 0, 1) := by decide +kernel
theorem dX6_givenName_8 : decode cX6_givenName 8 = .ok (.ireturn, 1) := by decide +kernel
theorem dX6_givenName_9 : decode cX6_givenName 9 = .ok (.aload_n 0, 1) := by decide +kernel
theorem dX6_givenName_10 : decode cX6_givenName 10 = .ok (.invokevirtual 118, 3) := by decide +kernel
theorem dX6_givenName_13 : decode cX6_givenName 13 = .ok (.ifCond .ne 14, 3) := by decide +kernel
theorem dX6_givenName_16 : decode cX6_givenName 16 = .ok (.aload_n 0, 1) := by decide +kernel
theorem dX6_givenName_17 : decode cX6_givenName 17 = .ok (.iconst 1, 1) := by decide +kernel
theorem dX6_givenName_18 : decode cX6_givenName 18 = .ok (.aload_n 0, 1) := by decide +kernel
theorem dX6_givenName_19 : decode cX6_givenName 19 = .ok (.getfield 87, 3) := by decide +kernel
theorem dX6_givenName_22 : decode cX6_givenName 22 = .ok (.invokevirtual 108, 3) := by decide +kernel
theorem dX6_givenName_25 : decode cX6_givenName 25 = .ok (.iconst 0, 1) := by decide +kernel
theorem dX6_givenName_26 : decode cX6_givenName 26 = .ok (.ireturn, 1) := by decide +kernel
theorem dX6_givenName_27 : decode cX6_givenName 27 = .ok (.aload_n 0, 1) := by decide +kernel
theorem dX6_givenName_28 : decode cX6_givenName 28 = .ok (.aload_n 0, 1) := by decide +kernel
theorem dX6_givenName_29 : decode cX6_givenName 29 = .ok (.invokevirtual 112, 3) := by decide +kernel
theorem dX6_givenName_32 : decode cX6_givenName 32 = .ok (.invokevirtual 122, 3) := by decide +kernel
theorem dX6_givenName_35 : decode cX6_givenName 35 = .ok (.istore_n 1, 1) := by decide +kernel
theorem dX6_givenName_36 : decode cX6_givenName 36 = .ok (.iload_n 1, 1) := by decide +kernel
theorem dX6_givenName_37 : decode cX6_givenName 37 = .ok (.ifCond .ge 12, 3) := by decide +kernel
theorem dX6_givenName_40 : decode cX6_givenName 40 = .ok (.aload_n 0, 1) := by decide +kernel
theorem dX6_givenName_41 : decode cX6_givenName 41 = .ok (.iconst 2, 1) := by decide +kernel
theorem dX6_givenName_42 : decode cX6_givenName 42 = .ok (.aload_n 0, 1) := by decide +kernel
theorem dX6_givenName_43 : decode cX6_givenName 43 = .ok (.getfield 87, 3) := by decide +kernel
theorem dX6_givenName_46 : decode cX6_givenName 46 = .ok (.invokevirtual 108, 3) := by decide +kernel
theorem dX6_givenName_49 : decode cX6_givenName 49 = .ok (.iload_n 1, 1) := by decide +kernel
theorem dX6_givenName_50 : decode cX6_givenName 50 = .ok (.ireturn, 1) := by decide +kernel
theorem dX6_least_0 : decode cX6_least 0 = .ok (.iload_n 0, 1) := by decide +kernel
theorem dX6_least_1 : decode cX6_least 1 = .ok (.bipush 7, 2) := by decide +kernel
theorem dX6_least_3 : decode cX6_least 3 = .ok (.if_icmp .ne 7, 3) := by decide +kernel
theorem dX6_least_6 : decode cX6_least 6 = .ok (.iconst 3, 1) := by decide +kernel
theorem dX6_least_7 : decode cX6_least 7 = .ok (.goto 19, 3) := by decide +kernel
theorem dX6_least_10 : decode cX6_least 10 = .ok (.iload_n 0, 1) := by decide +kernel
theorem dX6_least_11 : decode cX6_least 11 = .ok (.iconst 5, 1) := by decide +kernel
theorem dX6_least_12 : decode cX6_least 12 = .ok (.if_icmp .eq 9, 3) := by decide +kernel
theorem dX6_least_15 : decode cX6_least 15 = .ok (.iload_n 0, 1) := by decide +kernel
theorem dX6_least_16 : decode cX6_least 16 = .ok (.bipush 6, 2) := by decide +kernel
theorem dX6_least_18 : decode cX6_least 18 = .ok (.if_icmp .ne 7, 3) := by decide +kernel
theorem dX6_least_21 : decode cX6_least 21 = .ok (.iconst 1, 1) := by decide +kernel
theorem dX6_least_22 : decode cX6_least 22 = .ok (.goto 4, 3) := by decide +kernel
theorem dX6_least_25 : decode cX6_least 25 = .ok (.iconst 2, 1) := by decide +kernel
theorem dX6_least_26 : decode cX6_least 26 = .ok (.ireturn, 1) := by decide +kernel
theorem dX6_gate_0 : decode cX6_gate 0 = .ok (.aload_n 0, 1) := by decide +kernel
theorem dX6_gate_1 : decode cX6_gate 1 = .ok (.invokevirtual 101, 3) := by decide +kernel
theorem dX6_gate_4 : decode cX6_gate 4 = .ok (.invokestatic 94, 3) := by decide +kernel
theorem dX6_gate_7 : decode cX6_gate 7 = .ok (.istore_n 2, 1) := by decide +kernel
theorem dX6_gate_8 : decode cX6_gate 8 = .ok (.aload_n 0, 1) := by decide +kernel
theorem dX6_gate_9 : decode cX6_gate 9 = .ok (.invokevirtual 135, 3) := by decide +kernel
theorem dX6_gate_12 : decode cX6_gate 12 = .ok (.istore_n 3, 1) := by decide +kernel
theorem dX6_gate_13 : decode cX6_gate 13 = .ok (.iload_n 3, 1) := by decide +kernel
theorem dX6_gate_14 : decode cX6_gate 14 = .ok (.iconst (-1), 1) := by decide +kernel
theorem dX6_gate_15 : decode cX6_gate 15 = .ok (.if_icmp .ne 21, 3) := by decide +kernel
theorem dX6_gate_18 : decode cX6_gate 18 = .ok (.aload_n 0, 1) := by decide +kernel
theorem dX6_gate_19 : decode cX6_gate 19 = .ok (.iload_n 2, 1) := by decide +kernel
theorem dX6_gate_20 : decode cX6_gate 20 = .ok (.ifCond .eq 7, 3) := by decide +kernel
theorem dX6_gate_23 : decode cX6_gate 23 = .ok (.iconst 3, 1) := by decide +kernel
theorem dX6_gate_24 : decode cX6_gate 24 = .ok (.goto 4, 3) := by decide +kernel
theorem dX6_gate_27 : decode cX6_gate 27 = .ok (.iconst 1, 1) := by decide +kernel
theorem dX6_gate_28 : decode cX6_gate 28 = .ok (.aload_n 0, 1) := by decide +kernel
theorem dX6_gate_29 : decode cX6_gate 29 = .ok (.getfield 87, 3) := by decide +kernel
theorem dX6_gate_32 : decode cX6_gate 32 = .ok (.invokevirtual 108, 3) := by decide +kernel
theorem dX6_gate_35 : decode cX6_gate 35 = .ok (.return_, 1) := by decide +kernel
theorem dX6_gate_36 : decode cX6_gate 36 = .ok (.aload_n 0, 1) := by decide +kernel
theorem dX6_gate_37 : decode cX6_gate 37 = .ok (.dup, 1) := by decide +kernel
theorem dX6_gate_38 : decode cX6_gate 38 = .ok (.getfield 87, 3) := by decide +kernel
theorem dX6_gate_41 : decode cX6_gate 41 = .ok (.aload_n 0, 1) := by decide +kernel
theorem dX6_gate_42 : decode cX6_gate 42 = .ok (.invokevirtual 105, 3) := by decide +kernel
theorem dX6_gate_45 : decode cX6_gate 45 = .ok (.iadd, 1) := by decide +kernel
theorem dX6_gate_46 : decode cX6_gate 46 = .ok (.putfield 87, 3) := by decide +kernel
theorem dX6_gate_49 : decode cX6_gate 49 = .ok (.aload_n 0, 1) := by decide +kernel
theorem dX6_gate_50 : decode cX6_gate 50 = .ok (.bipush 40, 2) := by decide +kernel
theorem dX6_gate_52 : decode cX6_gate 52 = .ok (.invokevirtual 131, 3) := by decide +kernel
theorem dX6_gate_55 : decode cX6_gate 55 = .ok (.iconst 0, 1) := by decide +kernel
theorem dX6_gate_56 : decode cX6_gate 56 = .ok (.istore 4, 2) := by decide +kernel
theorem dX6_gate_58 : decode cX6_gate 58 = .ok (.iconst 1, 1) := by decide +kernel
theorem dX6_gate_59 : decode cX6_gate 59 = .ok (.istore 5, 2) := by decide +kernel
theorem dX6_gate_61 : decode cX6_gate 61 = .ok (.iload_n 3, 1) := by decide +kernel
theorem dX6_gate_62 : decode cX6_gate 62 = .ok (.iconst 4, 1) := by decide +kernel
theorem dX6_gate_63 : decode cX6_gate 63 = .ok (.if_icmp .gt 7, 3) := by decide +kernel
theorem dX6_gate_66 : decode cX6_gate 66 = .ok (.iconst 5, 1) := by decide +kernel
theorem dX6_gate_67 : decode cX6_gate 67 = .ok (.goto 7, 3) := by decide +kernel
theorem dX6_gate_70 : decode cX6_gate 70 = .ok (.iload_n 3, 1) := by decide +kernel
theorem dX6_gate_71 : decode cX6_gate 71 = .ok (.invokestatic 138, 3) := by decide +kernel
theorem dX6_gate_74 : decode cX6_gate 74 = .ok (.istore 6, 2) := by decide +kernel
theorem dX6_gate_76 : decode cX6_gate 76 = .ok (.iload 5, 2) := by decide +kernel
theorem dX6_gate_78 : decode cX6_gate 78 = .ok (.ifCond .eq 143, 3) := by decide +kernel
theorem dX6_gate_81 : decode cX6_gate 81 = .ok (.aload_n 0, 1) := by decide +kernel
theorem dX6_gate_82 : decode cX6_gate 82 = .ok (.getfield 84, 3) := by decide +kernel
theorem dX6_gate_85 : decode cX6_gate 85 = .ok (.ifCond .ne 136, 3) := by decide +kernel
theorem dX6_gate_88 : decode cX6_gate 88 = .ok (.aload_n 0, 1) := by decide +kernel
theorem dX6_gate_89 : decode cX6_gate 89 = .ok (.invokevirtual 141, 3) := by decide +kernel
theorem dX6_gate_92 : decode cX6_gate 92 = .ok (.istore 7, 2) := by decide +kernel
theorem dX6_gate_94 : decode cX6_gate 94 = .ok (.aload_n 0, 1) := by decide +kernel
theorem dX6_gate_95 : decode cX6_gate 95 = .ok (.getfield 84, 3) := by decide +kernel
theorem dX6_gate_98 : decode cX6_gate 98 = .ok (.ifCond .ne 18, 3) := by decide +kernel
theorem dX6_gate_101 : decode cX6_gate 101 = .ok (.iload 4, 2) := by decide +kernel
theorem dX6_gate_103 : decode cX6_gate 103 = .ok (.iconst 4, 1) := by decide +kernel
theorem dX6_gate_104 : decode cX6_gate 104 = .ok (.if_icmp .ne 12, 3) := by decide +kernel
theorem dX6_gate_107 : decode cX6_gate 107 = .ok (.aload_n 0, 1) := by decide +kernel
theorem dX6_gate_108 : decode cX6_gate 108 = .ok (.iconst 4, 1) := by decide +kernel
theorem dX6_gate_109 : decode cX6_gate 109 = .ok (.aload_n 0, 1) := by decide +kernel
theorem dX6_gate_110 : decode cX6_gate 110 = .ok (.getfield 87, 3) := by decide +kernel
theorem dX6_gate_113 : decode cX6_gate 113 = .ok (.invokevirtual 108, 3) := by decide +kernel
theorem dX6_gate_116 : decode cX6_gate 116 = .ok (.aload_n 0, 1) := by decide +kernel
theorem dX6_gate_117 : decode cX6_gate 117 = .ok (.getfield 84, 3) := by decide +kernel
theorem dX6_gate_120 : decode cX6_gate 120 = .ok (.ifCond .le 4, 3) := by decide +kernel
theorem dX6_gate_123 : decode cX6_gate 123 = .ok (.return_, 1) := by decide +kernel
theorem dX6_gate_124 : decode cX6_gate 124 = .ok (.aload_n 0, 1) := by decide +kernel
theorem dX6_gate_125 : decode cX6_gate 125 = .ok (.getfield 26, 3) := by decide +kernel
theorem dX6_gate_128 : decode cX6_gate 128 = .ok (.iconst 4, 1) := by decide +kernel
theorem dX6_gate_129 : decode cX6_gate 129 = .ok (.aload_n 0, 1) := by decide +kernel
theorem dX6_gate_130 : decode cX6_gate 130 = .ok (.getfield 115, 3) := by decide +kernel
theorem dX6_gate_133 : decode cX6_gate 133 = .ok (.imul, 1) := by decide +kernel
theorem dX6_gate_134 : decode cX6_gate 134 = .ok (.iload 4, 2) := by decide +kernel
theorem dX6_gate_136 : decode cX6_gate 136 = .ok (.iadd, 1) := by decide +kernel
theorem dX6_gate_137 : decode cX6_gate 137 = .ok (.iload 7, 2) := by decide +kernel
theorem dX6_gate_139 : decode cX6_gate 139 = .ok (.iastore, 1) := by decide +kernel
theorem dX6_gate_140 : decode cX6_gate 140 = .ok (.iinc 4 1, 3) := by decide +kernel
theorem dX6_gate_143 : decode cX6_gate 143 = .ok (.aload_n 0, 1) := by decide +kernel
theorem dX6_gate_144 : decode cX6_gate 144 = .ok (.dup, 1) := by decide +kernel
theorem dX6_gate_145 : decode cX6_gate 145 = .ok (.getfield 87, 3) := by decide +kernel
theorem dX6_gate_148 : decode cX6_gate 148 = .ok (.aload_n 0, 1) := by decide +kernel
theorem dX6_gate_149 : decode cX6_gate 149 = .ok (.invokevirtual 105, 3) := by decide +kernel
theorem dX6_gate_152 : decode cX6_gate 152 = .ok (.iadd, 1) := by decide +kernel
theorem dX6_gate_153 : decode cX6_gate 153 = .ok (.putfield 87, 3) := by decide +kernel
theorem dX6_gate_156 : decode cX6_gate 156 = .ok (.aload_n 0, 1) := by decide +kernel
theorem dX6_gate_157 : decode cX6_gate 157 = .ok (.invokevirtual 101, 3) := by decide +kernel
theorem dX6_gate_160 : decode cX6_gate 160 = .ok (.bipush 44, 2) := by decide +kernel
theorem dX6_gate_162 : decode cX6_gate 162 = .ok (.if_icmp .ne 14, 3) := by decide +kernel
theorem dX6_gate_165 : decode cX6_gate 165 = .ok (.iload 4, 2) := by decide +kernel
theorem dX6_gate_167 : decode cX6_gate 167 = .ok (.iload 6, 2) := by decide +kernel
theorem dX6_gate_169 : decode cX6_gate 169 = .ok (.if_icmp .ge 7, 3) := by decide +kernel
theorem dX6_gate_172 : decode cX6_gate 172 = .ok (.iconst 1, 1) := by decide +kernel
theorem dX6_gate_173 : decode cX6_gate 173 = .ok (.goto 4, 3) := by decide +kernel
theorem dX6_gate_176 : decode cX6_gate 176 = .ok (.iconst 0, 1) := by decide +kernel
theorem dX6_gate_177 : decode cX6_gate 177 = .ok (.istore 5, 2) := by decide +kernel
theorem dX6_gate_179 : decode cX6_gate 179 = .ok (.iload 5, 2) := by decide +kernel
theorem dX6_gate_181 : decode cX6_gate 181 = .ok (.ifCond .ne 19, 3) := by decide +kernel
theorem dX6_gate_184 : decode cX6_gate 184 = .ok (.aload_n 0, 1) := by decide +kernel
theorem dX6_gate_185 : decode cX6_gate 185 = .ok (.getfield 84, 3) := by decide +kernel
theorem dX6_gate_188 : decode cX6_gate 188 = .ok (.ifCond .ne 16, 3) := by decide +kernel
theorem dX6_gate_191 : decode cX6_gate 191 = .ok (.iload 4, 2) := by decide +kernel
theorem dX6_gate_193 : decode cX6_gate 193 = .ok (.iload_n 3, 1) := by decide +kernel
theorem dX6_gate_194 : decode cX6_gate 194 = .ok (.invokestatic 138, 3) := by decide +kernel
theorem dX6_gate_197 : decode cX6_gate 197 = .ok (.if_icmp .ge 7, 3) := by decide +kernel
theorem dX6_gate_200 : decode cX6_gate 200 = .ok (.iconst 1, 1) := by decide +kernel
theorem dX6_gate_201 : decode cX6_gate 201 = .ok (.goto 4, 3) := by decide +kernel
theorem dX6_gate_204 : decode cX6_gate 204 = .ok (.iconst 0, 1) := by decide +kernel
theorem dX6_gate_205 : decode cX6_gate 205 = .ok (.istore 5, 2) := by decide +kernel
theorem dX6_gate_207 : decode cX6_gate 207 = .ok (.iload 5, 2) := by decide +kernel
theorem dX6_gate_209 : decode cX6_gate 209 = .ok (.ifCond .eq 9, 3) := by decide +kernel
theorem dX6_gate_212 : decode cX6_gate 212 = .ok (.aload_n 0, 1) := by decide +kernel
theorem dX6_gate_213 : decode cX6_gate 213 = .ok (.bipush 44, 2) := by decide +kernel
theorem dX6_gate_215 : decode cX6_gate 215 = .ok (.invokevirtual 131, 3) := by decide +kernel
theorem dX6_gate_218 : decode cX6_gate 218 = .ok (.goto (-142), 3) := by decide +kernel
theorem dX6_gate_221 : decode cX6_gate 221 = .ok (.aload_n 0, 1) := by decide +kernel
theorem dX6_gate_222 : decode cX6_gate 222 = .ok (.bipush 41, 2) := by decide +kernel
theorem dX6_gate_224 : decode cX6_gate 224 = .ok (.invokevirtual 131, 3) := by decide +kernel
theorem dX6_gate_227 : decode cX6_gate 227 = .ok (.aload_n 0, 1) := by decide +kernel
theorem dX6_gate_228 : decode cX6_gate 228 = .ok (.bipush 59, 2) := by decide +kernel
theorem dX6_gate_230 : decode cX6_gate 230 = .ok (.invokevirtual 131, 3) := by decide +kernel
theorem dX6_gate_233 : decode cX6_gate 233 = .ok (.aload_n 0, 1) := by decide +kernel
theorem dX6_gate_234 : decode cX6_gate 234 = .ok (.getfield 84, 3) := by decide +kernel
theorem dX6_gate_237 : decode cX6_gate 237 = .ok (.ifCond .ne 44, 3) := by decide +kernel
theorem dX6_gate_240 : decode cX6_gate 240 = .ok (.aload_n 0, 1) := by decide +kernel
theorem dX6_gate_241 : decode cX6_gate 241 = .ok (.getfield 17, 3) := by decide +kernel
theorem dX6_gate_244 : decode cX6_gate 244 = .ok (.aload_n 0, 1) := by decide +kernel
theorem dX6_gate_245 : decode cX6_gate 245 = .ok (.getfield 115, 3) := by decide +kernel
theorem dX6_gate_248 : decode cX6_gate 248 = .ok (.iload_n 1, 1) := by decide +kernel
theorem dX6_gate_249 : decode cX6_gate 249 = .ok (.iastore, 1) := by decide +kernel
theorem dX6_gate_250 : decode cX6_gate 250 = .ok (.aload_n 0, 1) := by decide +kernel
theorem dX6_gate_251 : decode cX6_gate 251 = .ok (.getfield 20, 3) := by decide +kernel
theorem dX6_gate_254 : decode cX6_gate 254 = .ok (.aload_n 0, 1) := by decide +kernel
theorem dX6_gate_255 : decode cX6_gate 255 = .ok (.getfield 115, 3) := by decide +kernel
theorem dX6_gate_258 : decode cX6_gate 258 = .ok (.iload_n 3, 1) := by decide +kernel
theorem dX6_gate_259 : decode cX6_gate 259 = .ok (.iastore, 1) := by decide +kernel
theorem dX6_gate_260 : decode cX6_gate 260 = .ok (.aload_n 0, 1) := by decide +kernel
theorem dX6_gate_261 : decode cX6_gate 261 = .ok (.getfield 23, 3) := by decide +kernel
theorem dX6_gate_264 : decode cX6_gate 264 = .ok (.aload_n 0, 1) := by decide +kernel
theorem dX6_gate_265 : decode cX6_gate 265 = .ok (.getfield 115, 3) := by decide +kernel
theorem dX6_gate_268 : decode cX6_gate 268 = .ok (.iload 4, 2) := by decide +kernel
theorem dX6_gate_270 : decode cX6_gate 270 = .ok (.iastore, 1) := by decide +kernel
theorem dX6_gate_271 : decode cX6_gate 271 = .ok (.aload_n 0, 1) := by decide +kernel
theorem dX6_gate_272 : decode cX6_gate 272 = .ok (.dup, 1) := by decide +kernel
theorem dX6_gate_273 : decode cX6_gate 273 = .ok (.getfield 115, 3) := by decide +kernel
theorem dX6_gate_276 : decode cX6_gate 276 = .ok (.iconst 1, 1) := by decide +kernel
theorem dX6_gate_277 : decode cX6_gate 277 = .ok (.iadd, 1) := by decide +kernel
theorem dX6_gate_278 : decode cX6_gate 278 = .ok (.putfield 115, 3) := by decide +kernel
theorem dX6_gate_281 : decode cX6_gate 281 = .ok (.return_, 1) := by decide +kernel
theorem dX6_line_0 : decode cX6_line 0 = .ok (.aload_n 0, 1) := by decide +kernel
theorem dX6_line_1 : decode cX6_line 1 = .ok (.invokevirtual 118, 3) := by decide +kernel
theorem dX6_line_4 : decode cX6_line 4 = .ok (.ifCond .ne 13, 3) := by decide +kernel
theorem dX6_line_7 : decode cX6_line 7 = .ok (.aload_n 0, 1) := by decide +kernel
theorem dX6_line_8 : decode cX6_line 8 = .ok (.iconst 1, 1) := by decide +kernel
theorem dX6_line_9 : decode cX6_line 9 = .ok (.aload_n 0, 1) := by decide +kernel
theorem dX6_line_10 : decode cX6_line 10 = .ok (.getfield 87, 3) := by decide +kernel
theorem dX6_line_13 : decode cX6_line 13 = .ok (.invokevirtual 108, 3) := by decide +kernel
theorem dX6_line_16 : decode cX6_line 16 = .ok (.return_, 1) := by decide +kernel
theorem dX6_line_17 : decode cX6_line 17 = .ok (.aload_n 0, 1) := by decide +kernel
theorem dX6_line_18 : decode cX6_line 18 = .ok (.invokevirtual 112, 3) := by decide +kernel
theorem dX6_line_21 : decode cX6_line 21 = .ok (.istore_n 1, 1) := by decide +kernel
theorem dX6_line_22 : decode cX6_line 22 = .ok (.aload_n 0, 1) := by decide +kernel
theorem dX6_line_23 : decode cX6_line 23 = .ok (.getfield 87, 3) := by decide +kernel
theorem dX6_line_26 : decode cX6_line 26 = .ok (.istore_n 2, 1) := by decide +kernel
theorem dX6_line_27 : decode cX6_line 27 = .ok (.aload_n 0, 1) := by decide +kernel
theorem dX6_line_28 : decode cX6_line 28 = .ok (.dup, 1) := by decide +kernel
theorem dX6_line_29 : decode cX6_line 29 = .ok (.getfield 87, 3) := by decide +kernel
theorem dX6_line_32 : decode cX6_line 32 = .ok (.aload_n 0, 1) := by decide +kernel
theorem dX6_line_33 : decode cX6_line 33 = .ok (.invokevirtual 105, 3) := by decide +kernel
theorem dX6_line_36 : decode cX6_line 36 = .ok (.iadd, 1) := by decide +kernel
theorem dX6_line_37 : decode cX6_line 37 = .ok (.putfield 87, 3) := by decide +kernel
theorem dX6_line_40 : decode cX6_line 40 = .ok (.aload_n 0, 1) := by decide +kernel
theorem dX6_line_41 : decode cX6_line 41 = .ok (.invokevirtual 101, 3) := by decide +kernel
theorem dX6_line_44 : decode cX6_line 44 = .ok (.istore_n 3, 1) := by decide +kernel
theorem dX6_line_45 : decode cX6_line 45 = .ok (.aload_n 0, 1) := by decide +kernel
theorem dX6_line_46 : decode cX6_line 46 = .ok (.iload_n 1, 1) := by decide +kernel
theorem dX6_line_47 : decode cX6_line 47 = .ok (.invokevirtual 122, 3) := by decide +kernel
theorem dX6_line_50 : decode cX6_line 50 = .ok (.istore 4, 2) := by decide +kernel
theorem dX6_line_52 : decode cX6_line 52 = .ok (.iload_n 3, 1) := by decide +kernel
theorem dX6_line_53 : decode cX6_line 53 = .ok (.bipush 61, 2) := by decide +kernel
theorem dX6_line_55 : decode cX6_line 55 = .ok (.if_icmp .ne 57, 3) := by decide +kernel
theorem dX6_line_58 : decode cX6_line 58 = .ok (.iload 4, 2) := by decide +kernel
theorem dX6_line_60 : decode cX6_line 60 = .ok (.ifCond .lt 12, 3) := by decide +kernel
theorem dX6_line_63 : decode cX6_line 63 = .ok (.aload_n 0, 1) := by decide +kernel
theorem dX6_line_64 : decode cX6_line 64 = .ok (.iconst 3, 1) := by decide +kernel
theorem dX6_line_65 : decode cX6_line 65 = .ok (.iload_n 2, 1) := by decide +kernel
theorem dX6_line_66 : decode cX6_line 66 = .ok (.invokevirtual 108, 3) := by decide +kernel
theorem dX6_line_69 : decode cX6_line 69 = .ok (.goto 18, 3) := by decide +kernel
theorem dX6_line_72 : decode cX6_line 72 = .ok (.aload_n 0, 1) := by decide +kernel
theorem dX6_line_73 : decode cX6_line 73 = .ok (.getfield 115, 3) := by decide +kernel
theorem dX6_line_76 : decode cX6_line 76 = .ok (.bipush 60, 2) := by decide +kernel
theorem dX6_line_78 : decode cX6_line 78 = .ok (.if_icmp .ne 9, 3) := by decide +kernel
theorem dX6_line_81 : decode cX6_line 81 = .ok (.aload_n 0, 1) := by decide +kernel
theorem dX6_line_82 : decode cX6_line 82 = .ok (.iconst 4, 1) := by decide +kernel
theorem dX6_line_83 : decode cX6_line 83 = .ok (.iload_n 2, 1) := by decide +kernel
theorem dX6_line_84 : decode cX6_line 84 = .ok (.invokevirtual 108, 3) := by decide +kernel
theorem dX6_line_87 : decode cX6_line 87 = .ok (.aload_n 0, 1) := by decide +kernel
theorem dX6_line_88 : decode cX6_line 88 = .ok (.dup, 1) := by decide +kernel
theorem dX6_line_89 : decode cX6_line 89 = .ok (.getfield 87, 3) := by decide +kernel
theorem dX6_line_92 : decode cX6_line 92 = .ok (.iconst 1, 1) := by decide +kernel
theorem dX6_line_93 : decode cX6_line 93 = .ok (.iadd, 1) := by decide +kernel
theorem dX6_line_94 : decode cX6_line 94 = .ok (.putfield 87, 3) := by decide +kernel
theorem dX6_line_97 : decode cX6_line 97 = .ok (.aload_n 0, 1) := by decide +kernel
theorem dX6_line_98 : decode cX6_line 98 = .ok (.getfield 84, 3) := by decide +kernel
theorem dX6_line_101 : decode cX6_line 101 = .ok (.ifCond .ne 156, 3) := by decide +kernel
theorem dX6_line_104 : decode cX6_line 104 = .ok (.aload_n 0, 1) := by decide +kernel
theorem dX6_line_105 : decode cX6_line 105 = .ok (.iload_n 1, 1) := by decide +kernel
theorem dX6_line_106 : decode cX6_line 106 = .ok (.invokevirtual 144, 3) := by decide +kernel
theorem dX6_line_109 : decode cX6_line 109 = .ok (.goto 148, 3) := by decide +kernel
theorem dX6_line_112 : decode cX6_line 112 = .ok (.iload_n 3, 1) := by decide +kernel
theorem dX6_line_113 : decode cX6_line 113 = .ok (.bipush 60, 2) := by decide +kernel
theorem dX6_line_115 : decode cX6_line 115 = .ok (.if_icmp .ne 133, 3) := by decide +kernel
theorem dX6_line_118 : decode cX6_line 118 = .ok (.iload 4, 2) := by decide +kernel
theorem dX6_line_120 : decode cX6_line 120 = .ok (.aload_n 0, 1) := by decide +kernel
theorem dX6_line_121 : decode cX6_line 121 = .ok (.getfield 125, 3) := by decide +kernel
theorem dX6_line_124 : decode cX6_line 124 = .ok (.if_icmp .lt 21, 3) := by decide +kernel
theorem dX6_line_127 : decode cX6_line 127 = .ok (.iload 4, 2) := by decide +kernel
theorem dX6_line_129 : decode cX6_line 129 = .ok (.aload_n 0, 1) := by decide +kernel
theorem dX6_line_130 : decode cX6_line 130 = .ok (.getfield 125, 3) := by decide +kernel
theorem dX6_line_133 : decode cX6_line 133 = .ok (.aload_n 0, 1) := by decide +kernel
theorem dX6_line_134 : decode cX6_line 134 = .ok (.getfield 128, 3) := by decide +kernel
theorem dX6_line_137 : decode cX6_line 137 = .ok (.iadd, 1) := by decide +kernel
theorem dX6_line_138 : decode cX6_line 138 = .ok (.if_icmp .ge 7, 3) := by decide +kernel
theorem dX6_line_141 : decode cX6_line 141 = .ok (.iconst 1, 1) := by decide +kernel
theorem dX6_line_142 : decode cX6_line 142 = .ok (.goto 4, 3) := by decide +kernel
theorem dX6_line_145 : decode cX6_line 145 = .ok (.iconst 0, 1) := by decide +kernel
theorem dX6_line_146 : decode cX6_line 146 = .ok (.istore 5, 2) := by decide +kernel
theorem dX6_line_148 : decode cX6_line 148 = .ok (.iload 5, 2) := by decide +kernel
theorem dX6_line_150 : decode cX6_line 150 = .ok (.ifCond .ne 12, 3) := by decide +kernel
theorem dX6_line_153 : decode cX6_line 153 = .ok (.aload_n 0, 1) := by decide +kernel
theorem dX6_line_154 : decode cX6_line 154 = .ok (.iconst 2, 1) := by decide +kernel
theorem dX6_line_155 : decode cX6_line 155 = .ok (.iload_n 2, 1) := by decide +kernel
theorem dX6_line_156 : decode cX6_line 156 = .ok (.invokevirtual 108, 3) := by decide +kernel
theorem dX6_line_159 : decode cX6_line 159 = .ok (.goto 24, 3) := by decide +kernel
theorem dX6_line_162 : decode cX6_line 162 = .ok (.aload_n 0, 1) := by decide +kernel
theorem dX6_line_163 : decode cX6_line 163 = .ok (.getfield 29, 3) := by decide +kernel
theorem dX6_line_166 : decode cX6_line 166 = .ok (.iload 4, 2) := by decide +kernel
theorem dX6_line_168 : decode cX6_line 168 = .ok (.aload_n 0, 1) := by decide +kernel
theorem dX6_line_169 : decode cX6_line 169 = .ok (.getfield 125, 3) := by decide +kernel
theorem dX6_line_172 : decode cX6_line 172 = .ok (.isub, 1) := by decide +kernel
theorem dX6_line_173 : decode cX6_line 173 = .ok (.iaload, 1) := by decide +kernel
theorem dX6_line_174 : decode cX6_line 174 = .ok (.ifCond .lt 9, 3) := by decide +kernel
theorem dX6_line_177 : decode cX6_line 177 = .ok (.aload_n 0, 1) := by decide +kernel
theorem dX6_line_178 : decode cX6_line 178 = .ok (.iconst 3, 1) := by decide +kernel
theorem dX6_line_179 : decode cX6_line 179 = .ok (.iload_n 2, 1) := by decide +kernel
theorem dX6_line_180 : decode cX6_line 180 = .ok (.invokevirtual 108, 3) := by decide +kernel
theorem dX6_line_183 : decode cX6_line 183 = .ok (.aload_n 0, 1) := by decide +kernel
theorem dX6_line_184 : decode cX6_line 184 = .ok (.dup, 1) := by decide +kernel
theorem dX6_line_185 : decode cX6_line 185 = .ok (.getfield 87, 3) := by decide +kernel
theorem dX6_line_188 : decode cX6_line 188 = .ok (.iconst 1, 1) := by decide +kernel
theorem dX6_line_189 : decode cX6_line 189 = .ok (.iadd, 1) := by decide +kernel
theorem dX6_line_190 : decode cX6_line 190 = .ok (.putfield 87, 3) := by decide +kernel
theorem dX6_line_193 : decode cX6_line 193 = .ok (.aload_n 0, 1) := by decide +kernel
theorem dX6_line_194 : decode cX6_line 194 = .ok (.bipush 45, 2) := by decide +kernel
theorem dX6_line_196 : decode cX6_line 196 = .ok (.invokevirtual 131, 3) := by decide +kernel
theorem dX6_line_199 : decode cX6_line 199 = .ok (.aload_n 0, 1) := by decide +kernel
theorem dX6_line_200 : decode cX6_line 200 = .ok (.invokevirtual 141, 3) := by decide +kernel
theorem dX6_line_203 : decode cX6_line 203 = .ok (.istore 6, 2) := by decide +kernel
theorem dX6_line_205 : decode cX6_line 205 = .ok (.aload_n 0, 1) := by decide +kernel
theorem dX6_line_206 : decode cX6_line 206 = .ok (.getfield 84, 3) := by decide +kernel
theorem dX6_line_209 : decode cX6_line 209 = .ok (.ifCond .ne 30, 3) := by decide +kernel
theorem dX6_line_212 : decode cX6_line 212 = .ok (.aload_n 0, 1) := by decide +kernel
theorem dX6_line_213 : decode cX6_line 213 = .ok (.getfield 29, 3) := by decide +kernel
theorem dX6_line_216 : decode cX6_line 216 = .ok (.iload 4, 2) := by decide +kernel
theorem dX6_line_218 : decode cX6_line 218 = .ok (.aload_n 0, 1) := by decide +kernel
theorem dX6_line_219 : decode cX6_line 219 = .ok (.getfield 125, 3) := by decide +kernel
theorem dX6_line_222 : decode cX6_line 222 = .ok (.isub, 1) := by decide +kernel
theorem dX6_line_223 : decode cX6_line 223 = .ok (.iload 6, 2) := by decide +kernel
theorem dX6_line_225 : decode cX6_line 225 = .ok (.iastore, 1) := by decide +kernel
theorem dX6_line_226 : decode cX6_line 226 = .ok (.aload_n 0, 1) := by decide +kernel
theorem dX6_line_227 : decode cX6_line 227 = .ok (.dup, 1) := by decide +kernel
theorem dX6_line_228 : decode cX6_line 228 = .ok (.getfield 87, 3) := by decide +kernel
theorem dX6_line_231 : decode cX6_line 231 = .ok (.aload_n 0, 1) := by decide +kernel
theorem dX6_line_232 : decode cX6_line 232 = .ok (.invokevirtual 105, 3) := by decide +kernel
theorem dX6_line_235 : decode cX6_line 235 = .ok (.iadd, 1) := by decide +kernel
theorem dX6_line_236 : decode cX6_line 236 = .ok (.putfield 87, 3) := by decide +kernel
theorem dX6_line_239 : decode cX6_line 239 = .ok (.aload_n 0, 1) := by decide +kernel
theorem dX6_line_240 : decode cX6_line 240 = .ok (.bipush 59, 2) := by decide +kernel
theorem dX6_line_242 : decode cX6_line 242 = .ok (.invokevirtual 131, 3) := by decide +kernel
theorem dX6_line_245 : decode cX6_line 245 = .ok (.goto 12, 3) := by decide +kernel
theorem dX6_line_248 : decode cX6_line 248 = .ok (.aload_n 0, 1) := by decide +kernel
theorem dX6_line_249 : decode cX6_line 249 = .ok (.iconst 1, 1) := by decide +kernel
theorem dX6_line_250 : decode cX6_line 250 = .ok (.aload_n 0, 1) := by decide +kernel
theorem dX6_line_251 : decode cX6_line 251 = .ok (.getfield 87, 3) := by decide +kernel
theorem dX6_line_254 : decode cX6_line 254 = .ok (.invokevirtual 108, 3) := by decide +kernel
theorem dX6_line_257 : decode cX6_line 257 = .ok (.return_, 1) := by decide +kernel
theorem dX6_outputs_0 : decode cX6_outputs 0 = .ok (.aload_n 0, 1) := by decide +kernel
theorem dX6_outputs_1 : decode cX6_outputs 1 = .ok (.getfield 84, 3) := by decide +kernel
theorem dX6_outputs_4 : decode cX6_outputs 4 = .ok (.ifCond .ne 16, 3) := by decide +kernel
theorem dX6_outputs_7 : decode cX6_outputs 7 = .ok (.aload_n 0, 1) := by decide +kernel
theorem dX6_outputs_8 : decode cX6_outputs 8 = .ok (.invokevirtual 101, 3) := by decide +kernel
theorem dX6_outputs_11 : decode cX6_outputs 11 = .ok (.bipush 59, 2) := by decide +kernel
theorem dX6_outputs_13 : decode cX6_outputs 13 = .ok (.if_icmp .eq 7, 3) := by decide +kernel
theorem dX6_outputs_16 : decode cX6_outputs 16 = .ok (.iconst 1, 1) := by decide +kernel
theorem dX6_outputs_17 : decode cX6_outputs 17 = .ok (.goto 4, 3) := by decide +kernel
theorem dX6_outputs_20 : decode cX6_outputs 20 = .ok (.iconst 0, 1) := by decide +kernel
theorem dX6_outputs_21 : decode cX6_outputs 21 = .ok (.istore_n 1, 1) := by decide +kernel
theorem dX6_outputs_22 : decode cX6_outputs 22 = .ok (.iload_n 1, 1) := by decide +kernel
theorem dX6_outputs_23 : decode cX6_outputs 23 = .ok (.ifCond .eq 113, 3) := by decide +kernel
theorem dX6_outputs_26 : decode cX6_outputs 26 = .ok (.aload_n 0, 1) := by decide +kernel
theorem dX6_outputs_27 : decode cX6_outputs 27 = .ok (.getfield 84, 3) := by decide +kernel
theorem dX6_outputs_30 : decode cX6_outputs 30 = .ok (.ifCond .ne 106, 3) := by decide +kernel
theorem dX6_outputs_33 : decode cX6_outputs 33 = .ok (.aload_n 0, 1) := by decide +kernel
theorem dX6_outputs_34 : decode cX6_outputs 34 = .ok (.invokevirtual 141, 3) := by decide +kernel
theorem dX6_outputs_37 : decode cX6_outputs 37 = .ok (.istore_n 2, 1) := by decide +kernel
theorem dX6_outputs_38 : decode cX6_outputs 38 = .ok (.aload_n 0, 1) := by decide +kernel
theorem dX6_outputs_39 : decode cX6_outputs 39 = .ok (.getfield 84, 3) := by decide +kernel
theorem dX6_outputs_42 : decode cX6_outputs 42 = .ok (.ifCond .ne 21, 3) := by decide +kernel
theorem dX6_outputs_45 : decode cX6_outputs 45 = .ok (.aload_n 0, 1) := by decide +kernel
theorem dX6_outputs_46 : decode cX6_outputs 46 = .ok (.getfield 147, 3) := by decide +kernel
theorem dX6_outputs_49 : decode cX6_outputs 49 = .ok (.bipush 8, 2) := by decide +kernel
theorem dX6_outputs_51 : decode cX6_outputs 51 = .ok (.if_icmp .ne 12, 3) := by decide +kernel
theorem dX6_outputs_54 : decode cX6_outputs 54 = .ok (.aload_n 0, 1) := by decide +kernel
theorem dX6_outputs_55 : decode cX6_outputs 55 = .ok (.iconst 4, 1) := by decide +kernel
theorem dX6_outputs_56 : decode cX6_outputs 56 = .ok (.aload_n 0, 1) := by decide +kernel
theorem dX6_outputs_57 : decode cX6_outputs 57 = .ok (.getfield 87, 3) := by decide +kernel
theorem dX6_outputs_60 : decode cX6_outputs 60 = .ok (.invokevirtual 108, 3) := by decide +kernel
theorem dX6_outputs_63 : decode cX6_outputs 63 = .ok (.aload_n 0, 1) := by decide +kernel
theorem dX6_outputs_64 : decode cX6_outputs 64 = .ok (.getfield 84, 3) := by decide +kernel
theorem dX6_outputs_67 : decode cX6_outputs 67 = .ok (.ifCond .le 4, 3) := by decide +kernel
theorem dX6_outputs_70 : decode cX6_outputs 70 = .ok (.return_, 1) := by decide +kernel
theorem dX6_outputs_71 : decode cX6_outputs 71 = .ok (.aload_n 0, 1) := by decide +kernel
theorem dX6_outputs_72 : decode cX6_outputs 72 = .ok (.getfield 32, 3) := by decide +kernel
theorem dX6_outputs_75 : decode cX6_outputs 75 = .ok (.aload_n 0, 1) := by decide +kernel
theorem dX6_outputs_76 : decode cX6_outputs 76 = .ok (.getfield 147, 3) := by decide +kernel
theorem dX6_outputs_79 : decode cX6_outputs 79 = .ok (.iload_n 2, 1) := by decide +kernel
theorem dX6_outputs_80 : decode cX6_outputs 80 = .ok (.iastore, 1) := by decide +kernel
theorem dX6_outputs_81 : decode cX6_outputs 81 = .ok (.aload_n 0, 1) := by decide +kernel
theorem dX6_outputs_82 : decode cX6_outputs 82 = .ok (.dup, 1) := by decide +kernel
theorem dX6_outputs_83 : decode cX6_outputs 83 = .ok (.getfield 147, 3) := by decide +kernel
theorem dX6_outputs_86 : decode cX6_outputs 86 = .ok (.iconst 1, 1) := by decide +kernel
theorem dX6_outputs_87 : decode cX6_outputs 87 = .ok (.iadd, 1) := by decide +kernel
theorem dX6_outputs_88 : decode cX6_outputs 88 = .ok (.putfield 147, 3) := by decide +kernel
theorem dX6_outputs_91 : decode cX6_outputs 91 = .ok (.aload_n 0, 1) := by decide +kernel
theorem dX6_outputs_92 : decode cX6_outputs 92 = .ok (.dup, 1) := by decide +kernel
theorem dX6_outputs_93 : decode cX6_outputs 93 = .ok (.getfield 87, 3) := by decide +kernel
theorem dX6_outputs_96 : decode cX6_outputs 96 = .ok (.aload_n 0, 1) := by decide +kernel
theorem dX6_outputs_97 : decode cX6_outputs 97 = .ok (.invokevirtual 105, 3) := by decide +kernel
theorem dX6_outputs_100 : decode cX6_outputs 100 = .ok (.iadd, 1) := by decide +kernel
theorem dX6_outputs_101 : decode cX6_outputs 101 = .ok (.putfield 87, 3) := by decide +kernel
theorem dX6_outputs_104 : decode cX6_outputs 104 = .ok (.aload_n 0, 1) := by decide +kernel
theorem dX6_outputs_105 : decode cX6_outputs 105 = .ok (.invokevirtual 101, 3) := by decide +kernel
theorem dX6_outputs_108 : decode cX6_outputs 108 = .ok (.bipush 44, 2) := by decide +kernel
theorem dX6_outputs_110 : decode cX6_outputs 110 = .ok (.if_icmp .ne 7, 3) := by decide +kernel
theorem dX6_outputs_113 : decode cX6_outputs 113 = .ok (.iconst 1, 1) := by decide +kernel
theorem dX6_outputs_114 : decode cX6_outputs 114 = .ok (.goto 4, 3) := by decide +kernel
theorem dX6_outputs_117 : decode cX6_outputs 117 = .ok (.iconst 0, 1) := by decide +kernel
theorem dX6_outputs_118 : decode cX6_outputs 118 = .ok (.istore_n 1, 1) := by decide +kernel
theorem dX6_outputs_119 : decode cX6_outputs 119 = .ok (.iload_n 1, 1) := by decide +kernel
theorem dX6_outputs_120 : decode cX6_outputs 120 = .ok (.ifCond .eq 13, 3) := by decide +kernel
theorem dX6_outputs_123 : decode cX6_outputs 123 = .ok (.aload_n 0, 1) := by decide +kernel
theorem dX6_outputs_124 : decode cX6_outputs 124 = .ok (.dup, 1) := by decide +kernel
theorem dX6_outputs_125 : decode cX6_outputs 125 = .ok (.getfield 87, 3) := by decide +kernel
theorem dX6_outputs_128 : decode cX6_outputs 128 = .ok (.iconst 1, 1) := by decide +kernel
theorem dX6_outputs_129 : decode cX6_outputs 129 = .ok (.iadd, 1) := by decide +kernel
theorem dX6_outputs_130 : decode cX6_outputs 130 = .ok (.putfield 87, 3) := by decide +kernel
theorem dX6_outputs_133 : decode cX6_outputs 133 = .ok (.goto (-111), 3) := by decide +kernel
theorem dX6_outputs_136 : decode cX6_outputs 136 = .ok (.aload_n 0, 1) := by decide +kernel
theorem dX6_outputs_137 : decode cX6_outputs 137 = .ok (.bipush 59, 2) := by decide +kernel
theorem dX6_outputs_139 : decode cX6_outputs 139 = .ok (.invokevirtual 131, 3) := by decide +kernel
theorem dX6_outputs_142 : decode cX6_outputs 142 = .ok (.return_, 1) := by decide +kernel
theorem dX6_read_0 : decode cX6_read 0 = .ok (.aload_n 0, 1) := by decide +kernel
theorem dX6_read_1 : decode cX6_read 1 = .ok (.iconst 0, 1) := by decide +kernel
theorem dX6_read_2 : decode cX6_read 2 = .ok (.putfield 76, 3) := by decide +kernel
theorem dX6_read_5 : decode cX6_read 5 = .ok (.aload_n 0, 1) := by decide +kernel
theorem dX6_read_6 : decode cX6_read 6 = .ok (.iconst 0, 1) := by decide +kernel
theorem dX6_read_7 : decode cX6_read 7 = .ok (.putfield 84, 3) := by decide +kernel
theorem dX6_read_10 : decode cX6_read 10 = .ok (.aload_n 0, 1) := by decide +kernel
theorem dX6_read_11 : decode cX6_read 11 = .ok (.iconst (-1), 1) := by decide +kernel
theorem dX6_read_12 : decode cX6_read 12 = .ok (.putfield 13, 3) := by decide +kernel
theorem dX6_read_15 : decode cX6_read 15 = .ok (.aload_n 0, 1) := by decide +kernel
theorem dX6_read_16 : decode cX6_read 16 = .ok (.iconst 0, 1) := by decide +kernel
theorem dX6_read_17 : decode cX6_read 17 = .ok (.putfield 87, 3) := by decide +kernel
theorem dX6_read_20 : decode cX6_read 20 = .ok (.aload_n 0, 1) := by decide +kernel
theorem dX6_read_21 : decode cX6_read 21 = .ok (.iconst 0, 1) := by decide +kernel
theorem dX6_read_22 : decode cX6_read 22 = .ok (.putfield 115, 3) := by decide +kernel
theorem dX6_read_25 : decode cX6_read 25 = .ok (.aload_n 0, 1) := by decide +kernel
theorem dX6_read_26 : decode cX6_read 26 = .ok (.iconst 0, 1) := by decide +kernel
theorem dX6_read_27 : decode cX6_read 27 = .ok (.putfield 125, 3) := by decide +kernel
theorem dX6_read_30 : decode cX6_read 30 = .ok (.aload_n 0, 1) := by decide +kernel
theorem dX6_read_31 : decode cX6_read 31 = .ok (.iconst 0, 1) := by decide +kernel
theorem dX6_read_32 : decode cX6_read 32 = .ok (.putfield 128, 3) := by decide +kernel
theorem dX6_read_35 : decode cX6_read 35 = .ok (.aload_n 0, 1) := by decide +kernel
theorem dX6_read_36 : decode cX6_read 36 = .ok (.iconst 0, 1) := by decide +kernel
theorem dX6_read_37 : decode cX6_read 37 = .ok (.putfield 147, 3) := by decide +kernel
theorem dX6_read_40 : decode cX6_read 40 = .ok (.aload_n 0, 1) := by decide +kernel
theorem dX6_read_41 : decode cX6_read 41 = .ok (.sipush 26990, 3) := by decide +kernel
theorem dX6_read_44 : decode cX6_read 44 = .ok (.iconst 2, 1) := by decide +kernel
theorem dX6_read_45 : decode cX6_read 45 = .ok (.invokevirtual 150, 3) := by decide +kernel
theorem dX6_read_48 : decode cX6_read 48 = .ok (.aload_n 0, 1) := by decide +kernel
theorem dX6_read_49 : decode cX6_read 49 = .ok (.iconst 1, 1) := by decide +kernel
theorem dX6_read_50 : decode cX6_read 50 = .ok (.invokevirtual 153, 3) := by decide +kernel
theorem dX6_read_53 : decode cX6_read 53 = .ok (.aload_n 0, 1) := by decide +kernel
theorem dX6_read_54 : decode cX6_read 54 = .ok (.sipush 26214, 3) := by decide +kernel
theorem dX6_read_57 : decode cX6_read 57 = .ok (.iconst 2, 1) := by decide +kernel
theorem dX6_read_58 : decode cX6_read 58 = .ok (.invokevirtual 150, 3) := by decide +kernel
theorem dX6_read_61 : decode cX6_read 61 = .ok (.aload_n 0, 1) := by decide +kernel
theorem dX6_read_62 : decode cX6_read 62 = .ok (.iconst 0, 1) := by decide +kernel
theorem dX6_read_63 : decode cX6_read 63 = .ok (.invokevirtual 153, 3) := by decide +kernel
theorem dX6_read_66 : decode cX6_read 66 = .ok (.aload_n 0, 1) := by decide +kernel
theorem dX6_read_67 : decode cX6_read 67 = .ok (.getfield 84, 3) := by decide +kernel
theorem dX6_read_70 : decode cX6_read 70 = .ok (.ifCond .ne 19, 3) := by decide +kernel
theorem dX6_read_73 : decode cX6_read 73 = .ok (.aload_n 0, 1) := by decide +kernel
theorem dX6_read_74 : decode cX6_read 74 = .ok (.invokevirtual 112, 3) := by decide +kernel
theorem dX6_read_77 : decode cX6_read 77 = .ok (.ldc 157, 2) := by decide +kernel
theorem dX6_read_79 : decode cX6_read 79 = .ok (.if_icmp .eq 10, 3) := by decide +kernel
theorem dX6_read_82 : decode cX6_read 82 = .ok (.aload_n 0, 1) := by decide +kernel
theorem dX6_read_83 : decode cX6_read 83 = .ok (.invokevirtual 158, 3) := by decide +kernel
theorem dX6_read_86 : decode cX6_read 86 = .ok (.goto (-20), 3) := by decide +kernel
theorem dX6_read_89 : decode cX6_read 89 = .ok (.aload_n 0, 1) := by decide +kernel
theorem dX6_read_90 : decode cX6_read 90 = .ok (.ldc 157, 2) := by decide +kernel
theorem dX6_read_92 : decode cX6_read 92 = .ok (.iconst 3, 1) := by decide +kernel
theorem dX6_read_93 : decode cX6_read 93 = .ok (.invokevirtual 150, 3) := by decide +kernel
theorem dX6_read_96 : decode cX6_read 96 = .ok (.aload_n 0, 1) := by decide +kernel
theorem dX6_read_97 : decode cX6_read 97 = .ok (.invokevirtual 161, 3) := by decide +kernel
theorem dX6_read_100 : decode cX6_read 100 = .ok (.aload_n 0, 1) := by decide +kernel
theorem dX6_read_101 : decode cX6_read 101 = .ok (.getfield 84, 3) := by decide +kernel
theorem dX6_read_104 : decode cX6_read 104 = .ok (.ifCond .ne 19, 3) := by decide +kernel
theorem dX6_read_107 : decode cX6_read 107 = .ok (.aload_n 0, 1) := by decide +kernel
theorem dX6_read_108 : decode cX6_read 108 = .ok (.invokevirtual 101, 3) := by decide +kernel
theorem dX6_read_111 : decode cX6_read 111 = .ok (.ifCond .lt 12, 3) := by decide +kernel
theorem dX6_read_114 : decode cX6_read 114 = .ok (.aload_n 0, 1) := by decide +kernel
theorem dX6_read_115 : decode cX6_read 115 = .ok (.iconst 1, 1) := by decide +kernel
theorem dX6_read_116 : decode cX6_read 116 = .ok (.aload_n 0, 1) := by decide +kernel
theorem dX6_read_117 : decode cX6_read 117 = .ok (.getfield 87, 3) := by decide +kernel
theorem dX6_read_120 : decode cX6_read 120 = .ok (.invokevirtual 108, 3) := by decide +kernel
theorem dX6_read_123 : decode cX6_read 123 = .ok (.aload_n 0, 1) := by decide +kernel
theorem dX6_read_124 : decode cX6_read 124 = .ok (.getfield 84, 3) := by decide +kernel
theorem dX6_read_127 : decode cX6_read 127 = .ok (.ifCond .le 5, 3) := by decide +kernel
theorem dX6_read_130 : decode cX6_read 130 = .ok (.iconst (-1), 1) := by decide +kernel
theorem dX6_read_131 : decode cX6_read 131 = .ok (.ireturn, 1) := by decide +kernel
theorem dX6_read_132 : decode cX6_read 132 = .ok (.aload_n 0, 1) := by decide +kernel
theorem dX6_read_133 : decode cX6_read 133 = .ok (.invokevirtual 164, 3) := by decide +kernel
theorem dX6_read_136 : decode cX6_read 136 = .ok (.aload_n 0, 1) := by decide +kernel
theorem dX6_read_137 : decode cX6_read 137 = .ok (.getfield 167, 3) := by decide +kernel
theorem dX6_read_140 : decode cX6_read 140 = .ok (.ireturn, 1) := by decide +kernel
theorem dX6_keep_0 : decode cX6_keep 0 = .ok (.aload_n 0, 1) := by decide +kernel
theorem dX6_keep_1 : decode cX6_keep 1 = .ok (.aload_n 0, 1) := by decide +kernel
theorem dX6_keep_2 : decode cX6_keep 2 = .ok (.getfield 115, 3) := by decide +kernel
theorem dX6_keep_5 : decode cX6_keep 5 = .ok (.putfield 167, 3) := by decide +kernel
theorem dX6_keep_8 : decode cX6_keep 8 = .ok (.aload_n 0, 1) := by decide +kernel
theorem dX6_keep_9 : decode cX6_keep 9 = .ok (.aload_n 0, 1) := by decide +kernel
theorem dX6_keep_10 : decode cX6_keep 10 = .ok (.getfield 125, 3) := by decide +kernel
theorem dX6_keep_13 : decode cX6_keep 13 = .ok (.putfield 170, 3) := by decide +kernel
theorem dX6_keep_16 : decode cX6_keep 16 = .ok (.aload_n 0, 1) := by decide +kernel
theorem dX6_keep_17 : decode cX6_keep 17 = .ok (.aload_n 0, 1) := by decide +kernel
theorem dX6_keep_18 : decode cX6_keep 18 = .ok (.getfield 128, 3) := by decide +kernel
theorem dX6_keep_21 : decode cX6_keep 21 = .ok (.putfield 173, 3) := by decide +kernel
theorem dX6_keep_24 : decode cX6_keep 24 = .ok (.aload_n 0, 1) := by decide +kernel
theorem dX6_keep_25 : decode cX6_keep 25 = .ok (.aload_n 0, 1) := by decide +kernel
theorem dX6_keep_26 : decode cX6_keep 26 = .ok (.getfield 147, 3) := by decide +kernel
theorem dX6_keep_29 : decode cX6_keep 29 = .ok (.putfield 176, 3) := by decide +kernel
theorem dX6_keep_32 : decode cX6_keep 32 = .ok (.iconst 0, 1) := by decide +kernel
theorem dX6_keep_33 : decode cX6_keep 33 = .ok (.istore_n 1, 1) := by decide +kernel
theorem dX6_keep_34 : decode cX6_keep 34 = .ok (.iload_n 1, 1) := by decide +kernel
theorem dX6_keep_35 : decode cX6_keep 35 = .ok (.aload_n 0, 1) := by decide +kernel
