theorem dX6_shows_142 : decode cX6_shows 142 = .ok (.iconst (-1), 1) := by decide +kernel
theorem dX6_shows_143 : decode cX6_shows 143 = .ok (.ixor, 1) := by decide +kernel
theorem dX6_shows_144 : decode cX6_shows 144 = .ok (.iand, 1) := by decide +kernel
theorem dX6_shows_145 : decode cX6_shows 145 = .ok (.ireturn, 1) := by decide +kernel
theorem dX6_test_0 : decode cX6_test 0 = .ok (.aload_n 0, 1) := by decide +kernel
theorem dX6_test_1 : decode cX6_test 1 = .ok (.invokevirtual 231, 3) := by decide +kernel
theorem dX6_test_4 : decode cX6_test 4 = .ok (.aload_n 0, 1) := by decide +kernel
theorem dX6_test_5 : decode cX6_test 5 = .ok (.iload_n 1, 1) := by decide +kernel
theorem dX6_test_6 : decode cX6_test 6 = .ok (.ifCond .lt 11, 3) := by decide +kernel
theorem dX6_test_9 : decode cX6_test 9 = .ok (.iload_n 1, 1) := by decide +kernel
theorem dX6_test_10 : decode cX6_test 10 = .ok (.aload_n 0, 1) := by decide +kernel
theorem dX6_test_11 : decode cX6_test 11 = .ok (.getfield 202, 3) := by decide +kernel
theorem dX6_test_14 : decode cX6_test 14 = .ok (.if_icmp .lt 7, 3) := by decide +kernel
theorem dX6_test_17 : decode cX6_test 17 = .ok (.iconst 1, 1) := by decide +kernel
theorem dX6_test_18 : decode cX6_test 18 = .ok (.goto 4, 3) := by decide +kernel
theorem dX6_test_21 : decode cX6_test 21 = .ok (.iconst 0, 1) := by decide +kernel
theorem dX6_test_22 : decode cX6_test 22 = .ok (.putfield 76, 3) := by decide +kernel
theorem dX6_test_25 : decode cX6_test 25 = .ok (.aload_n 0, 1) := by decide +kernel
theorem dX6_test_26 : decode cX6_test 26 = .ok (.getfield 76, 3) := by decide +kernel
theorem dX6_test_29 : decode cX6_test 29 = .ok (.ifCond .le 7, 3) := by decide +kernel
theorem dX6_test_32 : decode cX6_test 32 = .ok (.iconst 0, 1) := by decide +kernel
theorem dX6_test_33 : decode cX6_test 33 = .ok (.goto 9, 3) := by decide +kernel
theorem dX6_test_36 : decode cX6_test 36 = .ok (.aload_n 0, 1) := by decide +kernel
theorem dX6_test_37 : decode cX6_test 37 = .ok (.getfield 61, 3) := by decide +kernel
theorem dX6_test_40 : decode cX6_test 40 = .ok (.iload_n 1, 1) := by decide +kernel
theorem dX6_test_41 : decode cX6_test 41 = .ok (.iaload, 1) := by decide +kernel
theorem dX6_test_42 : decode cX6_test 42 = .ok (.ireturn, 1) := by decide +kernel
theorem dX6_row__0 : decode cX6_row_ 0 = .ok (.aload_n 0, 1) := by decide +kernel
theorem dX6_row__1 : decode cX6_row_ 1 = .ok (.invokevirtual 231, 3) := by decide +kernel
theorem dX6_row__4 : decode cX6_row_ 4 = .ok (.aload_n 0, 1) := by decide +kernel
theorem dX6_row__5 : decode cX6_row_ 5 = .ok (.iload_n 1, 1) := by decide +kernel
theorem dX6_row__6 : decode cX6_row_ 6 = .ok (.ifCond .lt 11, 3) := by decide +kernel
theorem dX6_row__9 : decode cX6_row_ 9 = .ok (.iload_n 1, 1) := by decide +kernel
theorem dX6_row__10 : decode cX6_row_ 10 = .ok (.aload_n 0, 1) := by decide +kernel
theorem dX6_row__11 : decode cX6_row_ 11 = .ok (.getfield 221, 3) := by decide +kernel
theorem dX6_row__14 : decode cX6_row_ 14 = .ok (.if_icmp .lt 7, 3) := by decide +kernel
theorem dX6_row__17 : decode cX6_row_ 17 = .ok (.iconst 1, 1) := by decide +kernel
theorem dX6_row__18 : decode cX6_row_ 18 = .ok (.goto 17, 3) := by decide +kernel
theorem dX6_row__21 : decode cX6_row_ 21 = .ok (.iload_n 2, 1) := by decide +kernel
theorem dX6_row__22 : decode cX6_row_ 22 = .ok (.ifCond .lt 8, 3) := by decide +kernel
theorem dX6_row__25 : decode cX6_row_ 25 = .ok (.iload_n 2, 1) := by decide +kernel
theorem dX6_row__26 : decode cX6_row_ 26 = .ok (.iconst 4, 1) := by decide +kernel
theorem dX6_row__27 : decode cX6_row_ 27 = .ok (.if_icmp .le 7, 3) := by decide +kernel
theorem dX6_row__30 : decode cX6_row_ 30 = .ok (.iconst 2, 1) := by decide +kernel
theorem dX6_row__31 : decode cX6_row_ 31 = .ok (.goto 4, 3) := by decide +kernel
theorem dX6_row__34 : decode cX6_row_ 34 = .ok (.iconst 0, 1) := by decide +kernel
theorem dX6_row__35 : decode cX6_row_ 35 = .ok (.putfield 76, 3) := by decide +kernel
theorem dX6_row__38 : decode cX6_row_ 38 = .ok (.aload_n 0, 1) := by decide +kernel
theorem dX6_row__39 : decode cX6_row_ 39 = .ok (.getfield 76, 3) := by decide +kernel
theorem dX6_row__42 : decode cX6_row_ 42 = .ok (.ifCond .le 7, 3) := by decide +kernel
theorem dX6_row__45 : decode cX6_row_ 45 = .ok (.iconst 0, 1) := by decide +kernel
theorem dX6_row__46 : decode cX6_row_ 46 = .ok (.goto 13, 3) := by decide +kernel
theorem dX6_row__49 : decode cX6_row_ 49 = .ok (.aload_n 0, 1) := by decide +kernel
theorem dX6_row__50 : decode cX6_row_ 50 = .ok (.getfield 67, 3) := by decide +kernel
theorem dX6_row__53 : decode cX6_row_ 53 = .ok (.iconst 5, 1) := by decide +kernel
theorem dX6_row__54 : decode cX6_row_ 54 = .ok (.iload_n 1, 1) := by decide +kernel
theorem dX6_row__55 : decode cX6_row_ 55 = .ok (.imul, 1) := by decide +kernel
theorem dX6_row__56 : decode cX6_row_ 56 = .ok (.iload_n 2, 1) := by decide +kernel
theorem dX6_row__57 : decode cX6_row_ 57 = .ok (.iadd, 1) := by decide +kernel
theorem dX6_row__58 : decode cX6_row_ 58 = .ok (.iaload, 1) := by decide +kernel
theorem dX6_row__59 : decode cX6_row_ 59 = .ok (.ireturn, 1) := by decide +kernel
theorem dX6_newChip_0 : decode cX6_newChip 0 = .ok (.aload_n 0, 1) := by decide +kernel
theorem dX6_newChip_1 : decode cX6_newChip 1 = .ok (.iload_n 1, 1) := by decide +kernel
theorem dX6_newChip_2 : decode cX6_newChip 2 = .ok (.putfield 70, 3) := by decide +kernel
theorem dX6_newChip_5 : decode cX6_newChip 5 = .ok (.aload_n 0, 1) := by decide +kernel
theorem dX6_newChip_6 : decode cX6_newChip 6 = .ok (.iconst 0, 1) := by decide +kernel
theorem dX6_newChip_7 : decode cX6_newChip 7 = .ok (.putfield 238, 3) := by decide +kernel
theorem dX6_newChip_10 : decode cX6_newChip 10 = .ok (.aload_n 0, 1) := by decide +kernel
theorem dX6_newChip_11 : decode cX6_newChip 11 = .ok (.iconst 3, 1) := by decide +kernel
theorem dX6_newChip_12 : decode cX6_newChip 12 = .ok (.putfield 73, 3) := by decide +kernel
theorem dX6_newChip_15 : decode cX6_newChip 15 = .ok (.aload_n 0, 1) := by decide +kernel
theorem dX6_newChip_16 : decode cX6_newChip 16 = .ok (.iconst 0, 1) := by decide +kernel
theorem dX6_newChip_17 : decode cX6_newChip 17 = .ok (.putfield 241, 3) := by decide +kernel
theorem dX6_newChip_20 : decode cX6_newChip 20 = .ok (.aload_n 0, 1) := by decide +kernel
theorem dX6_newChip_21 : decode cX6_newChip 21 = .ok (.iconst 0, 1) := by decide +kernel
theorem dX6_newChip_22 : decode cX6_newChip 22 = .ok (.putfield 244, 3) := by decide +kernel
theorem dX6_newChip_25 : decode cX6_newChip 25 = .ok (.aload_n 0, 1) := by decide +kernel
theorem dX6_newChip_26 : decode cX6_newChip 26 = .ok (.iconst 0, 1) := by decide +kernel
theorem dX6_newChip_27 : decode cX6_newChip 27 = .ok (.putfield 247, 3) := by decide +kernel
theorem dX6_newChip_30 : decode cX6_newChip 30 = .ok (.return_, 1) := by decide +kernel
theorem dX6_after_0 : decode cX6_after 0 = .ok (.iload_n 0, 1) := by decide +kernel
theorem dX6_after_1 : decode cX6_after 1 = .ok (.tableswitch 202 0 15 #[79, 89, 99, 110, 110, 120, 132, 144, 89, 155, 166, 166, 178, 190, 202, 89], 79) := by decide +kernel
theorem dX6_after_80 : decode cX6_after 80 = .ok (.iload_n 1, 1) := by decide +kernel
theorem dX6_after_81 : decode cX6_after 81 = .ok (.ifCond .ne 7, 3) := by decide +kernel
theorem dX6_after_84 : decode cX6_after 84 = .ok (.iconst 1, 1) := by decide +kernel
theorem dX6_after_85 : decode cX6_after 85 = .ok (.goto 4, 3) := by decide +kernel
theorem dX6_after_88 : decode cX6_after 88 = .ok (.iconst 0, 1) := by decide +kernel
theorem dX6_after_89 : decode cX6_after 89 = .ok (.ireturn, 1) := by decide +kernel
theorem dX6_after_90 : decode cX6_after 90 = .ok (.iload_n 1, 1) := by decide +kernel
theorem dX6_after_91 : decode cX6_after 91 = .ok (.ifCond .ne 7, 3) := by decide +kernel
theorem dX6_after_94 : decode cX6_after 94 = .ok (.iconst 1, 1) := by decide +kernel
theorem dX6_after_95 : decode cX6_after 95 = .ok (.goto 4, 3) := by decide +kernel
theorem dX6_after_98 : decode cX6_after 98 = .ok (.iconst 2, 1) := by decide +kernel
theorem dX6_after_99 : decode cX6_after 99 = .ok (.ireturn, 1) := by decide +kernel
theorem dX6_after_100 : decode cX6_after 100 = .ok (.iload_n 1, 1) := by decide +kernel
theorem dX6_after_101 : decode cX6_after 101 = .ok (.ifCond .ne 7, 3) := by decide +kernel
theorem dX6_after_104 : decode cX6_after 104 = .ok (.iconst 3, 1) := by decide +kernel
theorem dX6_after_105 : decode cX6_after 105 = .ok (.goto 5, 3) := by decide +kernel
theorem dX6_after_108 : decode cX6_after 108 = .ok (.bipush 9, 2) := by decide +kernel
theorem dX6_after_110 : decode cX6_after 110 = .ok (.ireturn, 1) := by decide +kernel
theorem dX6_after_111 : decode cX6_after 111 = .ok (.iload_n 1, 1) := by decide +kernel
theorem dX6_after_112 : decode cX6_after 112 = .ok (.ifCond .ne 7, 3) := by decide +kernel
theorem dX6_after_115 : decode cX6_after 115 = .ok (.iconst 4, 1) := by decide +kernel
theorem dX6_after_116 : decode cX6_after 116 = .ok (.goto 4, 3) := by decide +kernel
theorem dX6_after_119 : decode cX6_after 119 = .ok (.iconst 5, 1) := by decide +kernel
theorem dX6_after_120 : decode cX6_after 120 = .ok (.ireturn, 1) := by decide +kernel
theorem dX6_after_121 : decode cX6_after 121 = .ok (.iload_n 1, 1) := by decide +kernel
theorem dX6_after_122 : decode cX6_after 122 = .ok (.ifCond .ne 8, 3) := by decide +kernel
theorem dX6_after_125 : decode cX6_after 125 = .ok (.bipush 6, 2) := by decide +kernel
theorem dX6_after_127 : decode cX6_after 127 = .ok (.goto 5, 3) := by decide +kernel
theorem dX6_after_130 : decode cX6_after 130 = .ok (.bipush 8, 2) := by decide +kernel
theorem dX6_after_132 : decode cX6_after 132 = .ok (.ireturn, 1) := by decide +kernel
theorem dX6_after_133 : decode cX6_after 133 = .ok (.iload_n 1, 1) := by decide +kernel
theorem dX6_after_134 : decode cX6_after 134 = .ok (.ifCond .ne 8, 3) := by decide +kernel
theorem dX6_after_137 : decode cX6_after 137 = .ok (.bipush 6, 2) := by decide +kernel
theorem dX6_after_139 : decode cX6_after 139 = .ok (.goto 5, 3) := by decide +kernel
theorem dX6_after_142 : decode cX6_after 142 = .ok (.bipush 7, 2) := by decide +kernel
theorem dX6_after_144 : decode cX6_after 144 = .ok (.ireturn, 1) := by decide +kernel
theorem dX6_after_145 : decode cX6_after 145 = .ok (.iload_n 1, 1) := by decide +kernel
theorem dX6_after_146 : decode cX6_after 146 = .ok (.ifCond .ne 7, 3) := by decide +kernel
theorem dX6_after_149 : decode cX6_after 149 = .ok (.iconst 4, 1) := by decide +kernel
theorem dX6_after_150 : decode cX6_after 150 = .ok (.goto 5, 3) := by decide +kernel
theorem dX6_after_153 : decode cX6_after 153 = .ok (.bipush 8, 2) := by decide +kernel
theorem dX6_after_155 : decode cX6_after 155 = .ok (.ireturn, 1) := by decide +kernel
theorem dX6_after_156 : decode cX6_after 156 = .ok (.iload_n 1, 1) := by decide +kernel
theorem dX6_after_157 : decode cX6_after 157 = .ok (.ifCond .ne 8, 3) := by decide +kernel
theorem dX6_after_160 : decode cX6_after 160 = .ok (.bipush 10, 2) := by decide +kernel
theorem dX6_after_162 : decode cX6_after 162 = .ok (.goto 4, 3) := by decide +kernel
theorem dX6_after_165 : decode cX6_after 165 = .ok (.iconst 0, 1) := by decide +kernel
theorem dX6_after_166 : decode cX6_after 166 = .ok (.ireturn, 1) := by decide +kernel
theorem dX6_after_167 : decode cX6_after 167 = .ok (.iload_n 1, 1) := by decide +kernel
theorem dX6_after_168 : decode cX6_after 168 = .ok (.ifCond .ne 8, 3) := by decide +kernel
theorem dX6_after_171 : decode cX6_after 171 = .ok (.bipush 11, 2) := by decide +kernel
theorem dX6_after_173 : decode cX6_after 173 = .ok (.goto 5, 3) := by decide +kernel
theorem dX6_after_176 : decode cX6_after 176 = .ok (.bipush 12, 2) := by decide +kernel
theorem dX6_after_178 : decode cX6_after 178 = .ok (.ireturn, 1) := by decide +kernel
theorem dX6_after_179 : decode cX6_after 179 = .ok (.iload_n 1, 1) := by decide +kernel
theorem dX6_after_180 : decode cX6_after 180 = .ok (.ifCond .ne 8, 3) := by decide +kernel
theorem dX6_after_183 : decode cX6_after 183 = .ok (.bipush 13, 2) := by decide +kernel
theorem dX6_after_185 : decode cX6_after 185 = .ok (.goto 5, 3) := by decide +kernel
theorem dX6_after_188 : decode cX6_after 188 = .ok (.bipush 15, 2) := by decide +kernel
theorem dX6_after_190 : decode cX6_after 190 = .ok (.ireturn, 1) := by decide +kernel
theorem dX6_after_191 : decode cX6_after 191 = .ok (.iload_n 1, 1) := by decide +kernel
theorem dX6_after_192 : decode cX6_after 192 = .ok (.ifCond .ne 8, 3) := by decide +kernel
theorem dX6_after_195 : decode cX6_after 195 = .ok (.bipush 13, 2) := by decide +kernel
theorem dX6_after_197 : decode cX6_after 197 = .ok (.goto 5, 3) := by decide +kernel
theorem dX6_after_200 : decode cX6_after 200 = .ok (.bipush 14, 2) := by decide +kernel
theorem dX6_after_202 : decode cX6_after 202 = .ok (.ireturn, 1) := by decide +kernel
theorem dX6_after_203 : decode cX6_after 203 = .ok (.iload_n 1, 1) := by decide +kernel
theorem dX6_after_204 : decode cX6_after 204 = .ok (.ifCond .ne 8, 3) := by decide +kernel
theorem dX6_after_207 : decode cX6_after 207 = .ok (.bipush 11, 2) := by decide +kernel
theorem dX6_after_209 : decode cX6_after 209 = .ok (.goto 5, 3) := by decide +kernel
theorem dX6_after_212 : decode cX6_after 212 = .ok (.bipush 15, 2) := by decide +kernel
theorem dX6_after_214 : decode cX6_after 214 = .ok (.ireturn, 1) := by decide +kernel
theorem dX6_clockOne_0 : decode cX6_clockOne 0 = .ok (.aload_n 0, 1) := by decide +kernel
theorem dX6_clockOne_1 : decode cX6_clockOne 1 = .ok (.iload_n 3, 1) := by decide +kernel
theorem dX6_clockOne_2 : decode cX6_clockOne 2 = .ok (.aload_n 0, 1) := by decide +kernel
theorem dX6_clockOne_3 : decode cX6_clockOne 3 = .ok (.getfield 241, 3) := by decide +kernel
theorem dX6_clockOne_6 : decode cX6_clockOne 6 = .ok (.aload_n 0, 1) := by decide +kernel
theorem dX6_clockOne_7 : decode cX6_clockOne 7 = .ok (.getfield 170, 3) := by decide +kernel
theorem dX6_clockOne_10 : decode cX6_clockOne 10 = .ok (.ishl, 1) := by decide +kernel
theorem dX6_clockOne_11 : decode cX6_clockOne 11 = .ok (.ior, 1) := by decide +kernel
theorem dX6_clockOne_12 : decode cX6_clockOne 12 = .ok (.aload_n 0, 1) := by decide +kernel
theorem dX6_clockOne_13 : decode cX6_clockOne 13 = .ok (.getfield 70, 3) := by decide +kernel
theorem dX6_clockOne_16 : decode cX6_clockOne 16 = .ok (.invokevirtual 208, 3) := by decide +kernel
theorem dX6_clockOne_19 : decode cX6_clockOne 19 = .ok (.istore 4, 2) := by decide +kernel
theorem dX6_clockOne_21 : decode cX6_clockOne 21 = .ok (.iload 4, 2) := by decide +kernel
theorem dX6_clockOne_23 : decode cX6_clockOne 23 = .ok (.aload_n 0, 1) := by decide +kernel
theorem dX6_clockOne_24 : decode cX6_clockOne 24 = .ok (.getfield 176, 3) := by decide +kernel
theorem dX6_clockOne_27 : decode cX6_clockOne 27 = .ok (.ishr, 1) := by decide +kernel
theorem dX6_clockOne_28 : decode cX6_clockOne 28 = .ok (.istore 5, 2) := by decide +kernel
theorem dX6_clockOne_30 : decode cX6_clockOne 30 = .ok (.iconst 0, 1) := by decide +kernel
theorem dX6_clockOne_31 : decode cX6_clockOne 31 = .ok (.istore 6, 2) := by decide +kernel
theorem dX6_clockOne_33 : decode cX6_clockOne 33 = .ok (.aload_n 0, 1) := by decide +kernel
theorem dX6_clockOne_34 : decode cX6_clockOne 34 = .ok (.getfield 238, 3) := by decide +kernel
theorem dX6_clockOne_37 : decode cX6_clockOne 37 = .ok (.iconst 4, 1) := by decide +kernel
theorem dX6_clockOne_38 : decode cX6_clockOne 38 = .ok (.if_icmp .ne 47, 3) := by decide +kernel
theorem dX6_clockOne_41 : decode cX6_clockOne 41 = .ok (.aload_n 0, 1) := by decide +kernel
theorem dX6_clockOne_42 : decode cX6_clockOne 42 = .ok (.getfield 73, 3) := by decide +kernel
theorem dX6_clockOne_45 : decode cX6_clockOne 45 = .ok (.iconst 1, 1) := by decide +kernel
theorem dX6_clockOne_46 : decode cX6_clockOne 46 = .ok (.if_icmp .eq 10, 3) := by decide +kernel
theorem dX6_clockOne_49 : decode cX6_clockOne 49 = .ok (.aload_n 0, 1) := by decide +kernel
theorem dX6_clockOne_50 : decode cX6_clockOne 50 = .ok (.getfield 244, 3) := by decide +kernel
theorem dX6_clockOne_53 : decode cX6_clockOne 53 = .ok (.goto 27, 3) := by decide +kernel
theorem dX6_clockOne_56 : decode cX6_clockOne 56 = .ok (.aload_n 0, 1) := by decide +kernel
theorem dX6_clockOne_57 : decode cX6_clockOne 57 = .ok (.getfield 173, 3) := by decide +kernel
theorem dX6_clockOne_60 : decode cX6_clockOne 60 = .ok (.ifCond .ne 7, 3) := by decide +kernel
theorem dX6_clockOne_63 : decode cX6_clockOne 63 = .ok (.iload_n 2, 1) := by decide +kernel
theorem dX6_clockOne_64 : decode cX6_clockOne 64 = .ok (.goto 16, 3) := by decide +kernel
theorem dX6_clockOne_67 : decode cX6_clockOne 67 = .ok (.aload_n 0, 1) := by decide +kernel
theorem dX6_clockOne_68 : decode cX6_clockOne 68 = .ok (.getfield 241, 3) := by decide +kernel
theorem dX6_clockOne_71 : decode cX6_clockOne 71 = .ok (.aload_n 0, 1) := by decide +kernel
theorem dX6_clockOne_72 : decode cX6_clockOne 72 = .ok (.getfield 173, 3) := by decide +kernel
theorem dX6_clockOne_75 : decode cX6_clockOne 75 = .ok (.iconst 1, 1) := by decide +kernel
theorem dX6_clockOne_76 : decode cX6_clockOne 76 = .ok (.isub, 1) := by decide +kernel
theorem dX6_clockOne_77 : decode cX6_clockOne 77 = .ok (.ishr, 1) := by decide +kernel
theorem dX6_clockOne_78 : decode cX6_clockOne 78 = .ok (.iconst 1, 1) := by decide +kernel
theorem dX6_clockOne_79 : decode cX6_clockOne 79 = .ok (.iand, 1) := by decide +kernel
theorem dX6_clockOne_80 : decode cX6_clockOne 80 = .ok (.istore 6, 2) := by decide +kernel
theorem dX6_clockOne_82 : decode cX6_clockOne 82 = .ok (.goto 20, 3) := by decide +kernel
theorem dX6_clockOne_85 : decode cX6_clockOne 85 = .ok (.aload_n 0, 1) := by decide +kernel
theorem dX6_clockOne_86 : decode cX6_clockOne 86 = .ok (.getfield 238, 3) := by decide +kernel
theorem dX6_clockOne_89 : decode cX6_clockOne 89 = .ok (.bipush 11, 2) := by decide +kernel
theorem dX6_clockOne_91 : decode cX6_clockOne 91 = .ok (.if_icmp .ne 11, 3) := by decide +kernel
theorem dX6_clockOne_94 : decode cX6_clockOne 94 = .ok (.aload_n 0, 1) := by decide +kernel
theorem dX6_clockOne_95 : decode cX6_clockOne 95 = .ok (.getfield 247, 3) := by decide +kernel
theorem dX6_clockOne_98 : decode cX6_clockOne 98 = .ok (.iconst 1, 1) := by decide +kernel
theorem dX6_clockOne_99 : decode cX6_clockOne 99 = .ok (.iand, 1) := by decide +kernel
theorem dX6_clockOne_100 : decode cX6_clockOne 100 = .ok (.istore 6, 2) := by decide +kernel
theorem dX6_clockOne_102 : decode cX6_clockOne 102 = .ok (.aload_n 0, 1) := by decide +kernel
theorem dX6_clockOne_103 : decode cX6_clockOne 103 = .ok (.getfield 238, 3) := by decide +kernel
theorem dX6_clockOne_106 : decode cX6_clockOne 106 = .ok (.ifCond .ne 11, 3) := by decide +kernel
theorem dX6_clockOne_109 : decode cX6_clockOne 109 = .ok (.aload_n 0, 1) := by decide +kernel
theorem dX6_clockOne_110 : decode cX6_clockOne 110 = .ok (.iconst 3, 1) := by decide +kernel
theorem dX6_clockOne_111 : decode cX6_clockOne 111 = .ok (.putfield 73, 3) := by decide +kernel
theorem dX6_clockOne_114 : decode cX6_clockOne 114 = .ok (.goto 176, 3) := by decide +kernel
theorem dX6_clockOne_117 : decode cX6_clockOne 117 = .ok (.aload_n 0, 1) := by decide +kernel
theorem dX6_clockOne_118 : decode cX6_clockOne 118 = .ok (.getfield 238, 3) := by decide +kernel
theorem dX6_clockOne_121 : decode cX6_clockOne 121 = .ok (.iconst 1, 1) := by decide +kernel
theorem dX6_clockOne_122 : decode cX6_clockOne 122 = .ok (.if_icmp .ne 11, 3) := by decide +kernel
theorem dX6_clockOne_125 : decode cX6_clockOne 125 = .ok (.aload_n 0, 1) := by decide +kernel
theorem dX6_clockOne_126 : decode cX6_clockOne 126 = .ok (.getfield 73, 3) := by decide +kernel
theorem dX6_clockOne_129 : decode cX6_clockOne 129 = .ok (.iconst 1, 1) := by decide +kernel
theorem dX6_clockOne_130 : decode cX6_clockOne 130 = .ok (.if_icmp .ne 19, 3) := by decide +kernel
theorem dX6_clockOne_133 : decode cX6_clockOne 133 = .ok (.aload_n 0, 1) := by decide +kernel
theorem dX6_clockOne_134 : decode cX6_clockOne 134 = .ok (.getfield 238, 3) := by decide +kernel
theorem dX6_clockOne_137 : decode cX6_clockOne 137 = .ok (.iconst 3, 1) := by decide +kernel
theorem dX6_clockOne_138 : decode cX6_clockOne 138 = .ok (.if_icmp .ne 20, 3) := by decide +kernel
theorem dX6_clockOne_141 : decode cX6_clockOne 141 = .ok (.aload_n 0, 1) := by decide +kernel
theorem dX6_clockOne_142 : decode cX6_clockOne 142 = .ok (.getfield 73, 3) := by decide +kernel
theorem dX6_clockOne_145 : decode cX6_clockOne 145 = .ok (.iconst 1, 1) := by decide +kernel
theorem dX6_clockOne_146 : decode cX6_clockOne 146 = .ok (.if_icmp .ne 12, 3) := by decide +kernel
theorem dX6_clockOne_149 : decode cX6_clockOne 149 = .ok (.aload_n 0, 1) := by decide +kernel
theorem dX6_clockOne_150 : decode cX6_clockOne 150 = .ok (.iload 5, 2) := by decide +kernel
theorem dX6_clockOne_152 : decode cX6_clockOne 152 = .ok (.putfield 241, 3) := by decide +kernel
theorem dX6_clockOne_155 : decode cX6_clockOne 155 = .ok (.goto 135, 3) := by decide +kernel
theorem dX6_clockOne_158 : decode cX6_clockOne 158 = .ok (.aload_n 0, 1) := by decide +kernel
theorem dX6_clockOne_159 : decode cX6_clockOne 159 = .ok (.getfield 238, 3) := by decide +kernel
theorem dX6_clockOne_162 : decode cX6_clockOne 162 = .ok (.iconst 3, 1) := by decide +kernel
theorem dX6_clockOne_163 : decode cX6_clockOne 163 = .ok (.if_icmp .ne 11, 3) := by decide +kernel
theorem dX6_clockOne_166 : decode cX6_clockOne 166 = .ok (.aload_n 0, 1) := by decide +kernel
theorem dX6_clockOne_167 : decode cX6_clockOne 167 = .ok (.iconst 0, 1) := by decide +kernel
theorem dX6_clockOne_168 : decode cX6_clockOne 168 = .ok (.putfield 244, 3) := by decide +kernel
theorem dX6_clockOne_171 : decode cX6_clockOne 171 = .ok (.goto 119, 3) := by decide +kernel
theorem dX6_clockOne_174 : decode cX6_clockOne 174 = .ok (.aload_n 0, 1) := by decide +kernel
theorem dX6_clockOne_175 : decode cX6_clockOne 175 = .ok (.getfield 238, 3) := by decide +kernel
theorem dX6_clockOne_178 : decode cX6_clockOne 178 = .ok (.iconst 4, 1) := by decide +kernel
theorem dX6_clockOne_179 : decode cX6_clockOne 179 = .ok (.if_icmp .ne 35, 3) := by decide +kernel
theorem dX6_clockOne_182 : decode cX6_clockOne 182 = .ok (.aload_n 0, 1) := by decide +kernel
theorem dX6_clockOne_183 : decode cX6_clockOne 183 = .ok (.getfield 73, 3) := by decide +kernel
theorem dX6_clockOne_186 : decode cX6_clockOne 186 = .ok (.iconst 1, 1) := by decide +kernel
theorem dX6_clockOne_187 : decode cX6_clockOne 187 = .ok (.if_icmp .ne 27, 3) := by decide +kernel
theorem dX6_clockOne_190 : decode cX6_clockOne 190 = .ok (.aload_n 0, 1) := by decide +kernel
theorem dX6_clockOne_191 : decode cX6_clockOne 191 = .ok (.aload_n 0, 1) := by decide +kernel
theorem dX6_clockOne_192 : decode cX6_clockOne 192 = .ok (.getfield 241, 3) := by decide +kernel
theorem dX6_clockOne_195 : decode cX6_clockOne 195 = .ok (.iconst 1, 1) := by decide +kernel
theorem dX6_clockOne_196 : decode cX6_clockOne 196 = .ok (.ishl, 1) := by decide +kernel
theorem dX6_clockOne_197 : decode cX6_clockOne 197 = .ok (.iload_n 2, 1) := by decide +kernel
theorem dX6_clockOne_198 : decode cX6_clockOne 198 = .ok (.ior, 1) := by decide +kernel
theorem dX6_clockOne_199 : decode cX6_clockOne 199 = .ok (.iconst 1, 1) := by decide +kernel
theorem dX6_clockOne_200 : decode cX6_clockOne 200 = .ok (.aload_n 0, 1) := by decide +kernel
theorem dX6_clockOne_201 : decode cX6_clockOne 201 = .ok (.getfield 173, 3) := by decide +kernel
theorem dX6_clockOne_204 : decode cX6_clockOne 204 = .ok (.ishl, 1) := by decide +kernel
theorem dX6_clockOne_205 : decode cX6_clockOne 205 = .ok (.iconst 1, 1) := by decide +kernel
theorem dX6_clockOne_206 : decode cX6_clockOne 206 = .ok (.isub, 1) := by decide +kernel
theorem dX6_clockOne_207 : decode cX6_clockOne 207 = .ok (.iand, 1) := by decide +kernel
theorem dX6_clockOne_208 : decode cX6_clockOne 208 = .ok (.putfield 241, 3) := by decide +kernel
theorem dX6_clockOne_211 : decode cX6_clockOne 211 = .ok (.goto 79, 3) := by decide +kernel
theorem dX6_clockOne_214 : decode cX6_clockOne 214 = .ok (.aload_n 0, 1) := by decide +kernel
theorem dX6_clockOne_215 : decode cX6_clockOne 215 = .ok (.getfield 238, 3) := by decide +kernel
theorem dX6_clockOne_218 : decode cX6_clockOne 218 = .ok (.iconst 4, 1) := by decide +kernel
theorem dX6_clockOne_219 : decode cX6_clockOne 219 = .ok (.if_icmp .ne 11, 3) := by decide +kernel
theorem dX6_clockOne_222 : decode cX6_clockOne 222 = .ok (.aload_n 0, 1) := by decide +kernel
theorem dX6_clockOne_223 : decode cX6_clockOne 223 = .ok (.iload_n 2, 1) := by decide +kernel
theorem dX6_clockOne_224 : decode cX6_clockOne 224 = .ok (.putfield 244, 3) := by decide +kernel
theorem dX6_clockOne_227 : decode cX6_clockOne 227 = .ok (.goto 63, 3) := by decide +kernel
theorem dX6_clockOne_230 : decode cX6_clockOne 230 = .ok (.aload_n 0, 1) := by decide +kernel
theorem dX6_clockOne_231 : decode cX6_clockOne 231 = .ok (.getfield 238, 3) := by decide +kernel
theorem dX6_clockOne_234 : decode cX6_clockOne 234 = .ok (.bipush 10, 2) := by decide +kernel
theorem dX6_clockOne_236 : decode cX6_clockOne 236 = .ok (.if_icmp .ne 11, 3) := by decide +kernel
theorem dX6_clockOne_239 : decode cX6_clockOne 239 = .ok (.aload_n 0, 1) := by decide +kernel
theorem dX6_clockOne_240 : decode cX6_clockOne 240 = .ok (.iconst 1, 1) := by decide +kernel
theorem dX6_clockOne_241 : decode cX6_clockOne 241 = .ok (.putfield 247, 3) := by decide +kernel
theorem dX6_clockOne_244 : decode cX6_clockOne 244 = .ok (.goto 46, 3) := by decide +kernel
theorem dX6_clockOne_247 : decode cX6_clockOne 247 = .ok (.aload_n 0, 1) := by decide +kernel
theorem dX6_clockOne_248 : decode cX6_clockOne 248 = .ok (.getfield 238, 3) := by decide +kernel
theorem dX6_clockOne_251 : decode cX6_clockOne 251 = .ok (.bipush 11, 2) := by decide +kernel
theorem dX6_clockOne_253 : decode cX6_clockOne 253 = .ok (.if_icmp .ne 20, 3) := by decide +kernel
theorem dX6_clockOne_256 : decode cX6_clockOne 256 = .ok (.aload_n 0, 1) := by decide +kernel
theorem dX6_clockOne_257 : decode cX6_clockOne 257 = .ok (.aload_n 0, 1) := by decide +kernel
theorem dX6_clockOne_258 : decode cX6_clockOne 258 = .ok (.getfield 247, 3) := by decide +kernel
theorem dX6_clockOne_261 : decode cX6_clockOne 261 = .ok (.iconst 1, 1) := by decide +kernel
theorem dX6_clockOne_262 : decode cX6_clockOne 262 = .ok (.ishr, 1) := by decide +kernel
theorem dX6_clockOne_263 : decode cX6_clockOne 263 = .ok (.iload_n 2, 1) := by decide +kernel
theorem dX6_clockOne_264 : decode cX6_clockOne 264 = .ok (.iconst 1, 1) := by decide +kernel
theorem dX6_clockOne_265 : decode cX6_clockOne 265 = .ok (.ishl, 1) := by decide +kernel
theorem dX6_clockOne_266 : decode cX6_clockOne 266 = .ok (.ior, 1) := by decide +kernel
theorem dX6_clockOne_267 : decode cX6_clockOne 267 = .ok (.putfield 247, 3) := by decide +kernel
theorem dX6_clockOne_270 : decode cX6_clockOne 270 = .ok (.goto 20, 3) := by decide +kernel
theorem dX6_clockOne_273 : decode cX6_clockOne 273 = .ok (.aload_n 0, 1) := by decide +kernel
theorem dX6_clockOne_274 : decode cX6_clockOne 274 = .ok (.getfield 238, 3) := by decide +kernel
theorem dX6_clockOne_277 : decode cX6_clockOne 277 = .ok (.bipush 15, 2) := by decide +kernel
theorem dX6_clockOne_279 : decode cX6_clockOne 279 = .ok (.if_icmp .ne 11, 3) := by decide +kernel
theorem dX6_clockOne_282 : decode cX6_clockOne 282 = .ok (.aload_n 0, 1) := by decide +kernel
theorem dX6_clockOne_283 : decode cX6_clockOne 283 = .ok (.aload_n 0, 1) := by decide +kernel
theorem dX6_clockOne_284 : decode cX6_clockOne 284 = .ok (.getfield 247, 3) := by decide +kernel
theorem dX6_clockOne_287 : decode cX6_clockOne 287 = .ok (.putfield 73, 3) := by decide +kernel
theorem dX6_clockOne_290 : decode cX6_clockOne 290 = .ok (.aload_n 0, 1) := by decide +kernel
theorem dX6_clockOne_291 : decode cX6_clockOne 291 = .ok (.aload_n 0, 1) := by decide +kernel
theorem dX6_clockOne_292 : decode cX6_clockOne 292 = .ok (.getfield 238, 3) := by decide +kernel
theorem dX6_clockOne_295 : decode cX6_clockOne 295 = .ok (.iload_n 1, 1) := by decide +kernel
theorem dX6_clockOne_296 : decode cX6_clockOne 296 = .ok (.invokestatic 250, 3) := by decide +kernel
theorem dX6_clockOne_299 : decode cX6_clockOne 299 = .ok (.putfield 238, 3) := by decide +kernel
theorem dX6_clockOne_302 : decode cX6_clockOne 302 = .ok (.iload 4, 2) := by decide +kernel
theorem dX6_clockOne_304 : decode cX6_clockOne 304 = .ok (.iconst 1, 1) := by decide +kernel
theorem dX6_clockOne_305 : decode cX6_clockOne 305 = .ok (.aload_n 0, 1) := by decide +kernel
theorem dX6_clockOne_306 : decode cX6_clockOne 306 = .ok (.getfield 176, 3) := by decide +kernel
theorem dX6_clockOne_309 : decode cX6_clockOne 309 = .ok (.ishl, 1) := by decide +kernel
theorem dX6_clockOne_310 : decode cX6_clockOne 310 = .ok (.iconst 1, 1) := by decide +kernel
theorem dX6_clockOne_311 : decode cX6_clockOne 311 = .ok (.isub, 1) := by decide +kernel
theorem dX6_clockOne_312 : decode cX6_clockOne 312 = .ok (.iand, 1) := by decide +kernel
theorem dX6_clockOne_313 : decode cX6_clockOne 313 = .ok (.iload 6, 2) := by decide +kernel
theorem dX6_clockOne_315 : decode cX6_clockOne 315 = .ok (.bipush 8, 2) := by decide +kernel
theorem dX6_clockOne_317 : decode cX6_clockOne 317 = .ok (.ishl, 1) := by decide +kernel
theorem dX6_clockOne_318 : decode cX6_clockOne 318 = .ok (.ior, 1) := by decide +kernel
theorem dX6_clockOne_319 : decode cX6_clockOne 319 = .ok (.ireturn, 1) := by decide +kernel
theorem dX6_failsAt_0 : decode cX6_failsAt 0 = .ok (.aload_n 0, 1) := by decide +kernel
theorem dX6_failsAt_1 : decode cX6_failsAt 1 = .ok (.getfield 70, 3) := by decide +kernel
theorem dX6_failsAt_4 : decode cX6_failsAt 4 = .ok (.istore_n 2, 1) := by decide +kernel
theorem dX6_failsAt_5 : decode cX6_failsAt 5 = .ok (.aload_n 0, 1) := by decide +kernel
theorem dX6_failsAt_6 : decode cX6_failsAt 6 = .ok (.getfield 238, 3) := by decide +kernel
theorem dX6_failsAt_9 : decode cX6_failsAt 9 = .ok (.istore_n 3, 1) := by decide +kernel
theorem dX6_failsAt_10 : decode cX6_failsAt 10 = .ok (.aload_n 0, 1) := by decide +kernel
theorem dX6_failsAt_11 : decode cX6_failsAt 11 = .ok (.getfield 73, 3) := by decide +kernel
theorem dX6_failsAt_14 : decode cX6_failsAt 14 = .ok (.istore 4, 2) := by decide +kernel
theorem dX6_failsAt_16 : decode cX6_failsAt 16 = .ok (.aload_n 0, 1) := by decide +kernel
theorem dX6_failsAt_17 : decode cX6_failsAt 17 = .ok (.getfield 241, 3) := by decide +kernel
theorem dX6_failsAt_20 : decode cX6_failsAt 20 = .ok (.istore 5, 2) := by decide +kernel
theorem dX6_failsAt_22 : decode cX6_failsAt 22 = .ok (.aload_n 0, 1) := by decide +kernel
theorem dX6_failsAt_23 : decode cX6_failsAt 23 = .ok (.getfield 244, 3) := by decide +kernel
theorem dX6_failsAt_26 : decode cX6_failsAt 26 = .ok (.istore 6, 2) := by decide +kernel
theorem dX6_failsAt_28 : decode cX6_failsAt 28 = .ok (.aload_n 0, 1) := by decide +kernel
theorem dX6_failsAt_29 : decode cX6_failsAt 29 = .ok (.getfield 247, 3) := by decide +kernel
theorem dX6_failsAt_32 : decode cX6_failsAt 32 = .ok (.istore 7, 2) := by decide +kernel
theorem dX6_failsAt_34 : decode cX6_failsAt 34 = .ok (.aload_n 0, 1) := by decide +kernel
theorem dX6_failsAt_35 : decode cX6_failsAt 35 = .ok (.iload_n 1, 1) := by decide +kernel
theorem dX6_failsAt_36 : decode cX6_failsAt 36 = .ok (.invokevirtual 183, 3) := by decide +kernel
theorem dX6_failsAt_39 : decode cX6_failsAt 39 = .ok (.iconst (-1), 1) := by decide +kernel
theorem dX6_failsAt_40 : decode cX6_failsAt 40 = .ok (.istore 8, 2) := by decide +kernel
theorem dX6_failsAt_42 : decode cX6_failsAt 42 = .ok (.iconst 0, 1) := by decide +kernel
theorem dX6_failsAt_43 : decode cX6_failsAt 43 = .ok (.istore 9, 2) := by decide +kernel
theorem dX6_failsAt_45 : decode cX6_failsAt 45 = .ok (.iload 9, 2) := by decide +kernel
theorem dX6_failsAt_47 : decode cX6_failsAt 47 = .ok (.aload_n 0, 1) := by decide +kernel
theorem dX6_failsAt_48 : decode cX6_failsAt 48 = .ok (.getfield 221, 3) := by decide +kernel
theorem dX6_failsAt_51 : decode cX6_failsAt 51 = .ok (.if_icmp .ge 130, 3) := by decide +kernel
theorem dX6_failsAt_54 : decode cX6_failsAt 54 = .ok (.iload 8, 2) := by decide +kernel
theorem dX6_failsAt_56 : decode cX6_failsAt 56 = .ok (.ifCond .ge 125, 3) := by decide +kernel
theorem dX6_failsAt_59 : decode cX6_failsAt 59 = .ok (.aload_n 0, 1) := by decide +kernel
theorem dX6_failsAt_60 : decode cX6_failsAt 60 = .ok (.aload_n 0, 1) := by decide +kernel
theorem dX6_failsAt_61 : decode cX6_failsAt 61 = .ok (.getfield 67, 3) := by decide +kernel
theorem dX6_failsAt_64 : decode cX6_failsAt 64 = .ok (.iconst 5, 1) := by decide +kernel
theorem dX6_failsAt_65 : decode cX6_failsAt 65 = .ok (.iload 9, 2) := by decide +kernel
theorem dX6_failsAt_67 : decode cX6_failsAt 67 = .ok (.imul, 1) := by decide +kernel
theorem dX6_failsAt_68 : decode cX6_failsAt 68 = .ok (.iaload, 1) := by decide +kernel
theorem dX6_failsAt_69 : decode cX6_failsAt 69 = .ok (.aload_n 0, 1) := by decide +kernel
theorem dX6_failsAt_70 : decode cX6_failsAt 70 = .ok (.getfield 67, 3) := by decide +kernel
theorem dX6_failsAt_73 : decode cX6_failsAt 73 = .ok (.iconst 5, 1) := by decide +kernel
theorem dX6_failsAt_74 : decode cX6_failsAt 74 = .ok (.iload 9, 2) := by decide +kernel
theorem dX6_failsAt_76 : decode cX6_failsAt 76 = .ok (.imul, 1) := by decide +kernel
theorem dX6_failsAt_77 : decode cX6_failsAt 77 = .ok (.iconst 1, 1) := by decide +kernel
theorem dX6_failsAt_78 : decode cX6_failsAt 78 = .ok (.iadd, 1) := by decide +kernel
theorem dX6_failsAt_79 : decode cX6_failsAt 79 = .ok (.iaload, 1) := by decide +kernel
theorem dX6_failsAt_80 : decode cX6_failsAt 80 = .ok (.aload_n 0, 1) := by decide +kernel
theorem dX6_failsAt_81 : decode cX6_failsAt 81 = .ok (.getfield 67, 3) := by decide +kernel
theorem dX6_failsAt_84 : decode cX6_failsAt 84 = .ok (.iconst 5, 1) := by decide +kernel
theorem dX6_failsAt_85 : decode cX6_failsAt 85 = .ok (.iload 9, 2) := by decide +kernel
theorem dX6_failsAt_87 : decode cX6_failsAt 87 = .ok (.imul, 1) := by decide +kernel
theorem dX6_failsAt_88 : decode cX6_failsAt 88 = .ok (.iconst 2, 1) := by decide +kernel
theorem dX6_failsAt_89 : decode cX6_failsAt 89 = .ok (.iadd, 1) := by decide +kernel
theorem dX6_failsAt_90 : decode cX6_failsAt 90 = .ok (.iaload, 1) := by decide +kernel
theorem dX6_failsAt_91 : decode cX6_failsAt 91 = .ok (.invokevirtual 253, 3) := by decide +kernel
theorem dX6_failsAt_94 : decode cX6_failsAt 94 = .ok (.istore 10, 2) := by decide +kernel
theorem dX6_failsAt_96 : decode cX6_failsAt 96 = .ok (.aload_n 0, 1) := by decide +kernel
theorem dX6_failsAt_97 : decode cX6_failsAt 97 = .ok (.getfield 67, 3) := by decide +kernel
theorem dX6_failsAt_100 : decode cX6_failsAt 100 = .ok (.iconst 5, 1) := by decide +kernel
theorem dX6_failsAt_101 : decode cX6_failsAt 101 = .ok (.iload 9, 2) := by decide +kernel
theorem dX6_failsAt_103 : decode cX6_failsAt 103 = .ok (.imul, 1) := by decide +kernel
theorem dX6_failsAt_104 : decode cX6_failsAt 104 = .ok (.iconst 3, 1) := by decide +kernel
theorem dX6_failsAt_105 : decode cX6_failsAt 105 = .ok (.iadd, 1) := by decide +kernel
theorem dX6_failsAt_106 : decode cX6_failsAt 106 = .ok (.iaload, 1) := by decide +kernel
theorem dX6_failsAt_107 : decode cX6_failsAt 107 = .ok (.istore 11, 2) := by decide +kernel
theorem dX6_failsAt_109 : decode cX6_failsAt 109 = .ok (.aload_n 0, 1) := by decide +kernel
theorem dX6_failsAt_110 : decode cX6_failsAt 110 = .ok (.getfield 67, 3) := by decide +kernel
theorem dX6_failsAt_113 : decode cX6_failsAt 113 = .ok (.iconst 5, 1) := by decide +kernel
theorem dX6_failsAt_114 : decode cX6_failsAt 114 = .ok (.iload 9, 2) := by decide +kernel
theorem dX6_failsAt_116 : decode cX6_failsAt 116 = .ok (.imul, 1) := by decide +kernel
theorem dX6_failsAt_117 : decode cX6_failsAt 117 = .ok (.iconst 4, 1) := by decide +kernel
theorem dX6_failsAt_118 : decode cX6_failsAt 118 = .ok (.iadd, 1) := by decide +kernel
theorem dX6_failsAt_119 : decode cX6_failsAt 119 = .ok (.iaload, 1) := by decide +kernel
theorem dX6_failsAt_120 : decode cX6_failsAt 120 = .ok (.istore 12, 2) := by decide +kernel
theorem dX6_failsAt_122 : decode cX6_failsAt 122 = .ok (.iload 11, 2) := by decide +kernel
theorem dX6_failsAt_124 : decode cX6_failsAt 124 = .ok (.iconst 2, 1) := by decide +kernel
theorem dX6_failsAt_125 : decode cX6_failsAt 125 = .ok (.if_icmp .eq 13, 3) := by decide +kernel
theorem dX6_failsAt_128 : decode cX6_failsAt 128 = .ok (.iload 11, 2) := by decide +kernel
theorem dX6_failsAt_130 : decode cX6_failsAt 130 = .ok (.iload 10, 2) := by decide +kernel
theorem dX6_failsAt_132 : decode cX6_failsAt 132 = .ok (.bipush 8, 2) := by decide +kernel
theorem dX6_failsAt_134 : decode cX6_failsAt 134 = .ok (.ishr, 1) := by decide +kernel
theorem dX6_failsAt_135 : decode cX6_failsAt 135 = .ok (.if_icmp .ne 24, 3) := by decide +kernel
theorem dX6_failsAt_138 : decode cX6_failsAt 138 = .ok (.iload 12, 2) := by decide +kernel
theorem dX6_failsAt_140 : decode cX6_failsAt 140 = .ok (.iconst (-1), 1) := by decide +kernel
theorem dX6_failsAt_141 : decode cX6_failsAt 141 = .ok (.if_icmp .eq 14, 3) := by decide +kernel
theorem dX6_failsAt_144 : decode cX6_failsAt 144 = .ok (.iload 12, 2) := by decide +kernel
theorem dX6_failsAt_146 : decode cX6_failsAt 146 = .ok (.iload 10, 2) := by decide +kernel
theorem dX6_failsAt_148 : decode cX6_failsAt 148 = .ok (.sipush 255, 3) := by decide +kernel
theorem dX6_failsAt_151 : decode cX6_failsAt 151 = .ok (.iand, 1) := by decide +kernel
theorem dX6_failsAt_152 : decode cX6_failsAt 152 = .ok (.if_icmp .ne 7, 3) := by decide +kernel
theorem dX6_failsAt_155 : decode cX6_failsAt 155 = .ok (.iconst 1, 1) := by decide +kernel
theorem dX6_failsAt_156 : decode cX6_failsAt 156 = .ok (.goto 4, 3) := by decide +kernel
theorem dX6_failsAt_159 : decode cX6_failsAt 159 = .ok (.iconst 0, 1) := by decide +kernel
theorem dX6_failsAt_160 : decode cX6_failsAt 160 = .ok (.istore 13, 2) := by decide +kernel
theorem dX6_failsAt_162 : decode cX6_failsAt 162 = .ok (.iload 13, 2) := by decide +kernel
theorem dX6_failsAt_164 : decode cX6_failsAt 164 = .ok (.ifCond .eq 7, 3) := by decide +kernel
theorem dX6_failsAt_167 : decode cX6_failsAt 167 = .ok (.iconst (-1), 1) := by decide +kernel
theorem dX6_failsAt_168 : decode cX6_failsAt 168 = .ok (.goto 5, 3) := by decide +kernel
theorem dX6_failsAt_171 : decode cX6_failsAt 171 = .ok (.iload 9, 2) := by decide +kernel
theorem dX6_failsAt_173 : decode cX6_failsAt 173 = .ok (.istore 8, 2) := by decide +kernel
theorem dX6_failsAt_175 : decode cX6_failsAt 175 = .ok (.iinc 9 1, 3) := by decide +kernel
theorem dX6_failsAt_178 : decode cX6_failsAt 178 = .ok (.goto (-133), 3) := by decide +kernel
theorem dX6_failsAt_181 : decode cX6_failsAt 181 = .ok (.aload_n 0, 1) := by decide +kernel
theorem dX6_failsAt_182 : decode cX6_failsAt 182 = .ok (.iload_n 2, 1) := by decide +kernel
theorem dX6_failsAt_183 : decode cX6_failsAt 183 = .ok (.putfield 70, 3) := by decide +kernel
theorem dX6_failsAt_186 : decode cX6_failsAt 186 = .ok (.aload_n 0, 1) := by decide +kernel
theorem dX6_failsAt_187 : decode cX6_failsAt 187 = .ok (.iload_n 3, 1) := by decide +kernel
theorem dX6_failsAt_188 : decode cX6_failsAt 188 = .ok (.putfield 238, 3) := by decide +kernel
theorem dX6_failsAt_191 : decode cX6_failsAt 191 = .ok (.aload_n 0, 1) := by decide +kernel
theorem dX6_failsAt_192 : decode cX6_failsAt 192 = .ok (.iload 4, 2) := by decide +kernel
theorem dX6_failsAt_194 : decode cX6_failsAt 194 = .ok (.putfield 73, 3) := by decide +kernel
theorem dX6_failsAt_197 : decode cX6_failsAt 197 = .ok (.aload_n 0, 1) := by decide +kernel
theorem dX6_failsAt_198 : decode cX6_failsAt 198 = .ok (.iload 5, 2) := by decide +kernel
theorem dX6_failsAt_200 : decode cX6_failsAt 200 = .ok (.putfield 241, 3) := by decide +kernel
theorem dX6_failsAt_203 : decode cX6_failsAt 203 = .ok (.aload_n 0, 1) := by decide +kernel
theorem dX6_failsAt_204 : decode cX6_failsAt 204 = .ok (.iload 6, 2) := by decide +kernel
theorem dX6_failsAt_206 : decode cX6_failsAt 206 = .ok (.putfield 244, 3) := by decide +kernel
theorem dX6_failsAt_209 : decode cX6_failsAt 209 = .ok (.aload_n 0, 1) := by decide +kernel
theorem dX6_failsAt_210 : decode cX6_failsAt 210 = .ok (.iload 7, 2) := by decide +kernel
theorem dX6_failsAt_212 : decode cX6_failsAt 212 = .ok (.putfield 247, 3) := by decide +kernel
theorem dX6_failsAt_215 : decode cX6_failsAt 215 = .ok (.iload 8, 2) := by decide +kernel
theorem dX6_failsAt_217 : decode cX6_failsAt 217 = .ok (.ireturn, 1) := by decide +kernel
theorem dX6_fails_0 : decode cX6_fails 0 = .ok (.aload_n 0, 1) := by decide +kernel
theorem dX6_fails_1 : decode cX6_fails 1 = .ok (.aload_n 0, 1) := by decide +kernel
theorem dX6_fails_2 : decode cX6_fails 2 = .ok (.iload_n 1, 1) := by decide +kernel
theorem dX6_fails_3 : decode cX6_fails 3 = .ok (.iconst 1, 1) := by decide +kernel
theorem dX6_fails_4 : decode cX6_fails 4 = .ok (.invokevirtual 234, 3) := by decide +kernel
theorem dX6_fails_7 : decode cX6_fails 7 = .ok (.ifCond .eq 7, 3) := by decide +kernel
theorem dX6_fails_10 : decode cX6_fails 10 = .ok (.iconst 1, 1) := by decide +kernel
theorem dX6_fails_11 : decode cX6_fails 11 = .ok (.goto 4, 3) := by decide +kernel
theorem dX6_fails_14 : decode cX6_fails 14 = .ok (.iconst 0, 1) := by decide +kernel
theorem dX6_fails_15 : decode cX6_fails 15 = .ok (.putfield 76, 3) := by decide +kernel
theorem dX6_fails_18 : decode cX6_fails 18 = .ok (.aload_n 0, 1) := by decide +kernel
theorem dX6_fails_19 : decode cX6_fails 19 = .ok (.getfield 76, 3) := by decide +kernel
theorem dX6_fails_22 : decode cX6_fails 22 = .ok (.ifCond .le 5, 3) := by decide +kernel
theorem dX6_fails_25 : decode cX6_fails 25 = .ok (.iconst 0, 1) := by decide +kernel
theorem dX6_fails_26 : decode cX6_fails 26 = .ok (.ireturn, 1) := by decide +kernel
theorem dX6_fails_27 : decode cX6_fails 27 = .ok (.aload_n 0, 1) := by decide +kernel
theorem dX6_fails_28 : decode cX6_fails 28 = .ok (.invokevirtual 231, 3) := by decide +kernel
theorem dX6_fails_31 : decode cX6_fails 31 = .ok (.aload_n 0, 1) := by decide +kernel
theorem dX6_fails_32 : decode cX6_fails 32 = .ok (.iload_n 1, 1) := by decide +kernel
theorem dX6_fails_33 : decode cX6_fails 33 = .ok (.invokevirtual 257, 3) := by decide +kernel
theorem dX6_fails_36 : decode cX6_fails 36 = .ok (.ireturn, 1) := by decide +kernel
theorem dX6_escapes_0 : decode cX6_escapes 0 = .ok (.aload_n 0, 1) := by decide +kernel
theorem dX6_escapes_1 : decode cX6_escapes 1 = .ok (.iconst 0, 1) := by decide +kernel
theorem dX6_escapes_2 : decode cX6_escapes 2 = .ok (.putfield 76, 3) := by decide +kernel
theorem dX6_escapes_5 : decode cX6_escapes 5 = .ok (.aload_n 0, 1) := by decide +kernel
theorem dX6_escapes_6 : decode cX6_escapes 6 = .ok (.invokevirtual 231, 3) := by decide +kernel
theorem dX6_escapes_9 : decode cX6_escapes 9 = .ok (.iconst 0, 1) := by decide +kernel
theorem dX6_escapes_10 : decode cX6_escapes 10 = .ok (.istore_n 1, 1) := by decide +kernel
theorem dX6_escapes_11 : decode cX6_escapes 11 = .ok (.iconst 0, 1) := by decide +kernel
theorem dX6_escapes_12 : decode cX6_escapes 12 = .ok (.istore_n 2, 1) := by decide +kernel
theorem dX6_escapes_13 : decode cX6_escapes 13 = .ok (.iload_n 2, 1) := by decide +kernel
theorem dX6_escapes_14 : decode cX6_escapes 14 = .ok (.iconst 2, 1) := by decide +kernel
theorem dX6_escapes_15 : decode cX6_escapes 15 = .ok (.aload_n 0, 1) := by decide +kernel
theorem dX6_escapes_16 : decode cX6_escapes 16 = .ok (.getfield 167, 3) := by decide +kernel
theorem dX6_escapes_19 : decode cX6_escapes 19 = .ok (.imul, 1) := by decide +kernel
theorem dX6_escapes_20 : decode cX6_escapes 20 = .ok (.if_icmp .ge 33, 3) := by decide +kernel
theorem dX6_escapes_23 : decode cX6_escapes 23 = .ok (.aload_n 0, 1) := by decide +kernel
theorem dX6_escapes_24 : decode cX6_escapes 24 = .ok (.iload_n 2, 1) := by decide +kernel
theorem dX6_escapes_25 : decode cX6_escapes 25 = .ok (.invokevirtual 195, 3) := by decide +kernel
theorem dX6_escapes_28 : decode cX6_escapes 28 = .ok (.ifCond .lt 17, 3) := by decide +kernel
theorem dX6_escapes_31 : decode cX6_escapes 31 = .ok (.aload_n 0, 1) := by decide +kernel
theorem dX6_escapes_32 : decode cX6_escapes 32 = .ok (.iload_n 2, 1) := by decide +kernel
theorem dX6_escapes_33 : decode cX6_escapes 33 = .ok (.invokevirtual 257, 3) := by decide +kernel
theorem dX6_escapes_36 : decode cX6_escapes 36 = .ok (.ifCond .ge 9, 3) := by decide +kernel
theorem dX6_escapes_39 : decode cX6_escapes 39 = .ok (.iload_n 1, 1) := by decide +kernel
theorem dX6_escapes_40 : decode cX6_escapes 40 = .ok (.iconst 1, 1) := by decide +kernel
theorem dX6_escapes_41 : decode cX6_escapes 41 = .ok (.iadd, 1) := by decide +kernel
theorem dX6_escapes_42 : decode cX6_escapes 42 = .ok (.goto 4, 3) := by decide +kernel
theorem dX6_escapes_45 : decode cX6_escapes 45 = .ok (.iload_n 1, 1) := by decide +kernel
theorem dX6_escapes_46 : decode cX6_escapes 46 = .ok (.istore_n 1, 1) := by decide +kernel
theorem dX6_escapes_47 : decode cX6_escapes 47 = .ok (.iinc 2 1, 3) := by decide +kernel
theorem dX6_escapes_50 : decode cX6_escapes 50 = .ok (.goto (-37), 3) := by decide +kernel
theorem dX6_escapes_53 : decode cX6_escapes 53 = .ok (.iload_n 1, 1) := by decide +kernel
theorem dX6_escapes_54 : decode cX6_escapes 54 = .ok (.ireturn, 1) := by decide +kernel
theorem dX6_chip_0 : decode cX6_chip 0 = .ok (.aload_n 0, 1) := by decide +kernel
theorem dX6_chip_1 : decode cX6_chip 1 = .ok (.aload_n 0, 1) := by decide +kernel
theorem dX6_chip_2 : decode cX6_chip 2 = .ok (.iload_n 1, 1) := by decide +kernel
theorem dX6_chip_3 : decode cX6_chip 3 = .ok (.iconst 1, 1) := by decide +kernel
theorem dX6_chip_4 : decode cX6_chip 4 = .ok (.invokevirtual 234, 3) := by decide +kernel
theorem dX6_chip_7 : decode cX6_chip 7 = .ok (.ifCond .eq 7, 3) := by decide +kernel
theorem dX6_chip_10 : decode cX6_chip 10 = .ok (.iconst 1, 1) := by decide +kernel
theorem dX6_chip_11 : decode cX6_chip 11 = .ok (.goto 4, 3) := by decide +kernel
theorem dX6_chip_14 : decode cX6_chip 14 = .ok (.iconst 0, 1) := by decide +kernel
theorem dX6_chip_15 : decode cX6_chip 15 = .ok (.putfield 76, 3) := by decide +kernel
theorem dX6_chip_18 : decode cX6_chip 18 = .ok (.aload_n 0, 1) := by decide +kernel
theorem dX6_chip_19 : decode cX6_chip 19 = .ok (.getfield 76, 3) := by decide +kernel
theorem dX6_chip_22 : decode cX6_chip 22 = .ok (.ifCond .ne 8, 3) := by decide +kernel
theorem dX6_chip_25 : decode cX6_chip 25 = .ok (.aload_n 0, 1) := by decide +kernel
theorem dX6_chip_26 : decode cX6_chip 26 = .ok (.iload_n 1, 1) := by decide +kernel
theorem dX6_chip_27 : decode cX6_chip 27 = .ok (.invokevirtual 183, 3) := by decide +kernel
theorem dX6_chip_30 : decode cX6_chip 30 = .ok (.return_, 1) := by decide +kernel
theorem dX6_clock_0 : decode cX6_clock 0 = .ok (.aload_n 0, 1) := by decide +kernel
theorem dX6_clock_1 : decode cX6_clock 1 = .ok (.iload_n 3, 1) := by decide +kernel
theorem dX6_clock_2 : decode cX6_clock 2 = .ok (.ifCond .lt 13, 3) := by decide +kernel
theorem dX6_clock_5 : decode cX6_clock 5 = .ok (.iload_n 3, 1) := by decide +kernel
theorem dX6_clock_6 : decode cX6_clock 6 = .ok (.iconst 1, 1) := by decide +kernel
theorem dX6_clock_7 : decode cX6_clock 7 = .ok (.aload_n 0, 1) := by decide +kernel
theorem dX6_clock_8 : decode cX6_clock 8 = .ok (.getfield 170, 3) := by decide +kernel
theorem dX6_clock_11 : decode cX6_clock 11 = .ok (.ishl, 1) := by decide +kernel
theorem dX6_clock_12 : decode cX6_clock 12 = .ok (.if_icmp .lt 7, 3) := by decide +kernel
theorem dX6_clock_15 : decode cX6_clock 15 = .ok (.iconst 1, 1) := by decide +kernel
theorem dX6_clock_16 : decode cX6_clock 16 = .ok (.goto 4, 3) := by decide +kernel
theorem dX6_clock_19 : decode cX6_clock 19 = .ok (.iconst 0, 1) := by decide +kernel
theorem dX6_clock_20 : decode cX6_clock 20 = .ok (.putfield 76, 3) := by decide +kernel
theorem dX6_clock_23 : decode cX6_clock 23 = .ok (.aload_n 0, 1) := by decide +kernel
theorem dX6_clock_24 : decode cX6_clock 24 = .ok (.getfield 76, 3) := by decide +kernel
theorem dX6_clock_27 : decode cX6_clock 27 = .ok (.ifCond .le 7, 3) := by decide +kernel
theorem dX6_clock_30 : decode cX6_clock 30 = .ok (.iconst 0, 1) := by decide +kernel
theorem dX6_clock_31 : decode cX6_clock 31 = .ok (.goto 26, 3) := by decide +kernel
theorem dX6_clock_34 : decode cX6_clock 34 = .ok (.aload_n 0, 1) := by decide +kernel
theorem dX6_clock_35 : decode cX6_clock 35 = .ok (.iload_n 1, 1) := by decide +kernel
theorem dX6_clock_36 : decode cX6_clock 36 = .ok (.ifCond .eq 7, 3) := by decide +kernel
theorem dX6_clock_39 : decode cX6_clock 39 = .ok (.iconst 1, 1) := by decide +kernel
theorem dX6_clock_40 : decode cX6_clock 40 = .ok (.goto 4, 3) := by decide +kernel
theorem dX6_clock_43 : decode cX6_clock 43 = .ok (.iconst 0, 1) := by decide +kernel
theorem dX6_clock_44 : decode cX6_clock 44 = .ok (.iload_n 2, 1) := by decide +kernel
theorem dX6_clock_45 : decode cX6_clock 45 = .ok (.ifCond .eq 7, 3) := by decide +kernel
theorem dX6_clock_48 : decode cX6_clock 48 = .ok (.iconst 1, 1) := by decide +kernel
theorem dX6_clock_49 : decode cX6_clock 49 = .ok (.goto 4, 3) := by decide +kernel
theorem dX6_clock_52 : decode cX6_clock 52 = .ok (.iconst 0, 1) := by decide +kernel
theorem dX6_clock_53 : decode cX6_clock 53 = .ok (.iload_n 3, 1) := by decide +kernel
theorem dX6_clock_54 : decode cX6_clock 54 = .ok (.invokevirtual 253, 3) := by decide +kernel
theorem dX6_clock_57 : decode cX6_clock 57 = .ok (.ireturn, 1) := by decide +kernel
theorem dX6_chipHas_0 : decode cX6_chipHas 0 = .ok (.aload_n 0, 1) := by decide +kernel
theorem dX6_chipHas_1 : decode cX6_chipHas 1 = .ok (.iload_n 1, 1) := by decide +kernel
theorem dX6_chipHas_2 : decode cX6_chipHas 2 = .ok (.ifCond .lt 8, 3) := by decide +kernel
theorem dX6_chipHas_5 : decode cX6_chipHas 5 = .ok (.iload_n 1, 1) := by decide +kernel
theorem dX6_chipHas_6 : decode cX6_chipHas 6 = .ok (.iconst 4, 1) := by decide +kernel
theorem dX6_chipHas_7 : decode cX6_chipHas 7 = .ok (.if_icmp .le 7, 3) := by decide +kernel
theorem dX6_chipHas_10 : decode cX6_chipHas 10 = .ok (.iconst 1, 1) := by decide +kernel
theorem dX6_chipHas_11 : decode cX6_chipHas 11 = .ok (.goto 4, 3) := by decide +kernel
theorem dX6_chipHas_14 : decode cX6_chipHas 14 = .ok (.iconst 0, 1) := by decide +kernel
theorem dX6_chipHas_15 : decode cX6_chipHas 15 = .ok (.putfield 76, 3) := by decide +kernel
theorem dX6_chipHas_18 : decode cX6_chipHas 18 = .ok (.aload_n 0, 1) := by decide +kernel
theorem dX6_chipHas_19 : decode cX6_chipHas 19 = .ok (.getfield 76, 3) := by decide +kernel
theorem dX6_chipHas_22 : decode cX6_chipHas 22 = .ok (.ifCond .le 5, 3) := by decide +kernel
theorem dX6_chipHas_25 : decode cX6_chipHas 25 = .ok (.iconst 0, 1) := by decide +kernel
theorem dX6_chipHas_26 : decode cX6_chipHas 26 = .ok (.ireturn, 1) := by decide +kernel
theorem dX6_chipHas_27 : decode cX6_chipHas 27 = .ok (.iload_n 1, 1) := by decide +kernel
theorem dX6_chipHas_28 : decode cX6_chipHas 28 = .ok (.ifCond .ne 10, 3) := by decide +kernel
theorem dX6_chipHas_31 : decode cX6_chipHas 31 = .ok (.aload_n 0, 1) := by decide +kernel
theorem dX6_chipHas_32 : decode cX6_chipHas 32 = .ok (.getfield 238, 3) := by decide +kernel
theorem dX6_chipHas_35 : decode cX6_chipHas 35 = .ok (.goto 43, 3) := by decide +kernel
theorem dX6_chipHas_38 : decode cX6_chipHas 38 = .ok (.iload_n 1, 1) := by decide +kernel
theorem dX6_chipHas_39 : decode cX6_chipHas 39 = .ok (.iconst 1, 1) := by decide +kernel
theorem dX6_chipHas_40 : decode cX6_chipHas 40 = .ok (.if_icmp .ne 10, 3) := by decide +kernel
theorem dX6_chipHas_43 : decode cX6_chipHas 43 = .ok (.aload_n 0, 1) := by decide +kernel
theorem dX6_chipHas_44 : decode cX6_chipHas 44 = .ok (.getfield 73, 3) := by decide +kernel
theorem dX6_chipHas_47 : decode cX6_chipHas 47 = .ok (.goto 31, 3) := by decide +kernel
theorem dX6_chipHas_50 : decode cX6_chipHas 50 = .ok (.iload_n 1, 1) := by decide +kernel
theorem dX6_chipHas_51 : decode cX6_chipHas 51 = .ok (.iconst 2, 1) := by decide +kernel
theorem dX6_chipHas_52 : decode cX6_chipHas 52 = .ok (.if_icmp .ne 10, 3) := by decide +kernel
theorem dX6_chipHas_55 : decode cX6_chipHas 55 = .ok (.aload_n 0, 1) := by decide +kernel
theorem dX6_chipHas_56 : decode cX6_chipHas 56 = .ok (.getfield 241, 3) := by decide +kernel
theorem dX6_chipHas_59 : decode cX6_chipHas 59 = .ok (.goto 19, 3) := by decide +kernel
theorem dX6_chipHas_62 : decode cX6_chipHas 62 = .ok (.iload_n 1, 1) := by decide +kernel
theorem dX6_chipHas_63 : decode cX6_chipHas 63 = .ok (.iconst 3, 1) := by decide +kernel
theorem dX6_chipHas_64 : decode cX6_chipHas 64 = .ok (.if_icmp .ne 10, 3) := by decide +kernel
theorem dX6_chipHas_67 : decode cX6_chipHas 67 = .ok (.aload_n 0, 1) := by decide +kernel
theorem dX6_chipHas_68 : decode cX6_chipHas 68 = .ok (.getfield 244, 3) := by decide +kernel
theorem dX6_chipHas_71 : decode cX6_chipHas 71 = .ok (.goto 7, 3) := by decide +kernel
theorem dX6_chipHas_74 : decode cX6_chipHas 74 = .ok (.aload_n 0, 1) := by decide +kernel
theorem dX6_chipHas_75 : decode cX6_chipHas 75 = .ok (.getfield 247, 3) := by decide +kernel
theorem dX6_chipHas_78 : decode cX6_chipHas 78 = .ok (.ireturn, 1) := by decide +kernel
