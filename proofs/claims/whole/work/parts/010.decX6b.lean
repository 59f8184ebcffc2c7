theorem dX6_keep_36 : decode cX6_keep 36 = .ok (.getfield 115, 3) := by decide +kernel
theorem dX6_keep_39 : decode cX6_keep 39 = .ok (.if_icmp .ge 33, 3) := by decide +kernel
theorem dX6_keep_42 : decode cX6_keep 42 = .ok (.aload_n 0, 1) := by decide +kernel
theorem dX6_keep_43 : decode cX6_keep 43 = .ok (.getfield 35, 3) := by decide +kernel
theorem dX6_keep_46 : decode cX6_keep 46 = .ok (.iload_n 1, 1) := by decide +kernel
theorem dX6_keep_47 : decode cX6_keep 47 = .ok (.aload_n 0, 1) := by decide +kernel
theorem dX6_keep_48 : decode cX6_keep 48 = .ok (.getfield 20, 3) := by decide +kernel
theorem dX6_keep_51 : decode cX6_keep 51 = .ok (.iload_n 1, 1) := by decide +kernel
theorem dX6_keep_52 : decode cX6_keep 52 = .ok (.iaload, 1) := by decide +kernel
theorem dX6_keep_53 : decode cX6_keep 53 = .ok (.iastore, 1) := by decide +kernel
theorem dX6_keep_54 : decode cX6_keep 54 = .ok (.aload_n 0, 1) := by decide +kernel
theorem dX6_keep_55 : decode cX6_keep 55 = .ok (.getfield 38, 3) := by decide +kernel
theorem dX6_keep_58 : decode cX6_keep 58 = .ok (.iload_n 1, 1) := by decide +kernel
theorem dX6_keep_59 : decode cX6_keep 59 = .ok (.aload_n 0, 1) := by decide +kernel
theorem dX6_keep_60 : decode cX6_keep 60 = .ok (.getfield 23, 3) := by decide +kernel
theorem dX6_keep_63 : decode cX6_keep 63 = .ok (.iload_n 1, 1) := by decide +kernel
theorem dX6_keep_64 : decode cX6_keep 64 = .ok (.iaload, 1) := by decide +kernel
theorem dX6_keep_65 : decode cX6_keep 65 = .ok (.iastore, 1) := by decide +kernel
theorem dX6_keep_66 : decode cX6_keep 66 = .ok (.iinc 1 1, 3) := by decide +kernel
theorem dX6_keep_69 : decode cX6_keep 69 = .ok (.goto (-35), 3) := by decide +kernel
theorem dX6_keep_72 : decode cX6_keep 72 = .ok (.iconst 0, 1) := by decide +kernel
theorem dX6_keep_73 : decode cX6_keep 73 = .ok (.istore_n 1, 1) := by decide +kernel
theorem dX6_keep_74 : decode cX6_keep 74 = .ok (.iload_n 1, 1) := by decide +kernel
theorem dX6_keep_75 : decode cX6_keep 75 = .ok (.iconst 4, 1) := by decide +kernel
theorem dX6_keep_76 : decode cX6_keep 76 = .ok (.aload_n 0, 1) := by decide +kernel
theorem dX6_keep_77 : decode cX6_keep 77 = .ok (.getfield 115, 3) := by decide +kernel
theorem dX6_keep_80 : decode cX6_keep 80 = .ok (.imul, 1) := by decide +kernel
theorem dX6_keep_81 : decode cX6_keep 81 = .ok (.if_icmp .ge 21, 3) := by decide +kernel
theorem dX6_keep_84 : decode cX6_keep 84 = .ok (.aload_n 0, 1) := by decide +kernel
theorem dX6_keep_85 : decode cX6_keep 85 = .ok (.getfield 41, 3) := by decide +kernel
theorem dX6_keep_88 : decode cX6_keep 88 = .ok (.iload_n 1, 1) := by decide +kernel
theorem dX6_keep_89 : decode cX6_keep 89 = .ok (.aload_n 0, 1) := by decide +kernel
theorem dX6_keep_90 : decode cX6_keep 90 = .ok (.getfield 26, 3) := by decide +kernel
theorem dX6_keep_93 : decode cX6_keep 93 = .ok (.iload_n 1, 1) := by decide +kernel
theorem dX6_keep_94 : decode cX6_keep 94 = .ok (.iaload, 1) := by decide +kernel
theorem dX6_keep_95 : decode cX6_keep 95 = .ok (.iastore, 1) := by decide +kernel
theorem dX6_keep_96 : decode cX6_keep 96 = .ok (.iinc 1 1, 3) := by decide +kernel
theorem dX6_keep_99 : decode cX6_keep 99 = .ok (.goto (-25), 3) := by decide +kernel
theorem dX6_keep_102 : decode cX6_keep 102 = .ok (.iconst 0, 1) := by decide +kernel
theorem dX6_keep_103 : decode cX6_keep 103 = .ok (.istore_n 1, 1) := by decide +kernel
theorem dX6_keep_104 : decode cX6_keep 104 = .ok (.iload_n 1, 1) := by decide +kernel
theorem dX6_keep_105 : decode cX6_keep 105 = .ok (.aload_n 0, 1) := by decide +kernel
theorem dX6_keep_106 : decode cX6_keep 106 = .ok (.getfield 128, 3) := by decide +kernel
theorem dX6_keep_109 : decode cX6_keep 109 = .ok (.if_icmp .ge 21, 3) := by decide +kernel
theorem dX6_keep_112 : decode cX6_keep 112 = .ok (.aload_n 0, 1) := by decide +kernel
theorem dX6_keep_113 : decode cX6_keep 113 = .ok (.getfield 44, 3) := by decide +kernel
theorem dX6_keep_116 : decode cX6_keep 116 = .ok (.iload_n 1, 1) := by decide +kernel
theorem dX6_keep_117 : decode cX6_keep 117 = .ok (.aload_n 0, 1) := by decide +kernel
theorem dX6_keep_118 : decode cX6_keep 118 = .ok (.getfield 29, 3) := by decide +kernel
theorem dX6_keep_121 : decode cX6_keep 121 = .ok (.iload_n 1, 1) := by decide +kernel
theorem dX6_keep_122 : decode cX6_keep 122 = .ok (.iaload, 1) := by decide +kernel
theorem dX6_keep_123 : decode cX6_keep 123 = .ok (.iastore, 1) := by decide +kernel
theorem dX6_keep_124 : decode cX6_keep 124 = .ok (.iinc 1 1, 3) := by decide +kernel
theorem dX6_keep_127 : decode cX6_keep 127 = .ok (.goto (-23), 3) := by decide +kernel
theorem dX6_keep_130 : decode cX6_keep 130 = .ok (.iconst 0, 1) := by decide +kernel
theorem dX6_keep_131 : decode cX6_keep 131 = .ok (.istore_n 1, 1) := by decide +kernel
theorem dX6_keep_132 : decode cX6_keep 132 = .ok (.iload_n 1, 1) := by decide +kernel
theorem dX6_keep_133 : decode cX6_keep 133 = .ok (.aload_n 0, 1) := by decide +kernel
theorem dX6_keep_134 : decode cX6_keep 134 = .ok (.getfield 147, 3) := by decide +kernel
theorem dX6_keep_137 : decode cX6_keep 137 = .ok (.if_icmp .ge 21, 3) := by decide +kernel
theorem dX6_keep_140 : decode cX6_keep 140 = .ok (.aload_n 0, 1) := by decide +kernel
theorem dX6_keep_141 : decode cX6_keep 141 = .ok (.getfield 47, 3) := by decide +kernel
theorem dX6_keep_144 : decode cX6_keep 144 = .ok (.iload_n 1, 1) := by decide +kernel
theorem dX6_keep_145 : decode cX6_keep 145 = .ok (.aload_n 0, 1) := by decide +kernel
theorem dX6_keep_146 : decode cX6_keep 146 = .ok (.getfield 32, 3) := by decide +kernel
theorem dX6_keep_149 : decode cX6_keep 149 = .ok (.iload_n 1, 1) := by decide +kernel
theorem dX6_keep_150 : decode cX6_keep 150 = .ok (.iaload, 1) := by decide +kernel
theorem dX6_keep_151 : decode cX6_keep 151 = .ok (.iastore, 1) := by decide +kernel
theorem dX6_keep_152 : decode cX6_keep 152 = .ok (.iinc 1 1, 3) := by decide +kernel
theorem dX6_keep_155 : decode cX6_keep 155 = .ok (.goto (-23), 3) := by decide +kernel
theorem dX6_keep_158 : decode cX6_keep 158 = .ok (.aload_n 0, 1) := by decide +kernel
theorem dX6_keep_159 : decode cX6_keep 159 = .ok (.iconst 0, 1) := by decide +kernel
theorem dX6_keep_160 : decode cX6_keep 160 = .ok (.putfield 179, 3) := by decide +kernel
theorem dX6_keep_163 : decode cX6_keep 163 = .ok (.aload_n 0, 1) := by decide +kernel
theorem dX6_keep_164 : decode cX6_keep 164 = .ok (.iconst (-1), 1) := by decide +kernel
theorem dX6_keep_165 : decode cX6_keep 165 = .ok (.invokevirtual 183, 3) := by decide +kernel
theorem dX6_keep_168 : decode cX6_keep 168 = .ok (.return_, 1) := by decide +kernel
theorem dX6_fault_0 : decode cX6_fault 0 = .ok (.aload_n 0, 1) := by decide +kernel
theorem dX6_fault_1 : decode cX6_fault 1 = .ok (.iconst 0, 1) := by decide +kernel
theorem dX6_fault_2 : decode cX6_fault 2 = .ok (.putfield 76, 3) := by decide +kernel
theorem dX6_fault_5 : decode cX6_fault 5 = .ok (.aload_n 0, 1) := by decide +kernel
theorem dX6_fault_6 : decode cX6_fault 6 = .ok (.getfield 84, 3) := by decide +kernel
theorem dX6_fault_9 : decode cX6_fault 9 = .ok (.ireturn, 1) := by decide +kernel
theorem dX6_place_0 : decode cX6_place 0 = .ok (.aload_n 0, 1) := by decide +kernel
theorem dX6_place_1 : decode cX6_place 1 = .ok (.iconst 0, 1) := by decide +kernel
theorem dX6_place_2 : decode cX6_place 2 = .ok (.putfield 76, 3) := by decide +kernel
theorem dX6_place_5 : decode cX6_place 5 = .ok (.aload_n 0, 1) := by decide +kernel
theorem dX6_place_6 : decode cX6_place 6 = .ok (.getfield 13, 3) := by decide +kernel
theorem dX6_place_9 : decode cX6_place 9 = .ok (.ireturn, 1) := by decide +kernel
theorem dX6_gateValue_0 : decode cX6_gateValue 0 = .ok (.aload_n 0, 1) := by decide +kernel
theorem dX6_gateValue_1 : decode cX6_gateValue 1 = .ok (.getfield 58, 3) := by decide +kernel
theorem dX6_gateValue_4 : decode cX6_gateValue 4 = .ok (.aload_n 0, 1) := by decide +kernel
theorem dX6_gateValue_5 : decode cX6_gateValue 5 = .ok (.getfield 41, 3) := by decide +kernel
theorem dX6_gateValue_8 : decode cX6_gateValue 8 = .ok (.iconst 4, 1) := by decide +kernel
theorem dX6_gateValue_9 : decode cX6_gateValue 9 = .ok (.iload_n 1, 1) := by decide +kernel
theorem dX6_gateValue_10 : decode cX6_gateValue 10 = .ok (.imul, 1) := by decide +kernel
theorem dX6_gateValue_11 : decode cX6_gateValue 11 = .ok (.iaload, 1) := by decide +kernel
theorem dX6_gateValue_12 : decode cX6_gateValue 12 = .ok (.iaload, 1) := by decide +kernel
theorem dX6_gateValue_13 : decode cX6_gateValue 13 = .ok (.istore_n 2, 1) := by decide +kernel
theorem dX6_gateValue_14 : decode cX6_gateValue 14 = .ok (.aload_n 0, 1) := by decide +kernel
theorem dX6_gateValue_15 : decode cX6_gateValue 15 = .ok (.getfield 35, 3) := by decide +kernel
theorem dX6_gateValue_18 : decode cX6_gateValue 18 = .ok (.iload_n 1, 1) := by decide +kernel
theorem dX6_gateValue_19 : decode cX6_gateValue 19 = .ok (.iaload, 1) := by decide +kernel
theorem dX6_gateValue_20 : decode cX6_gateValue 20 = .ok (.iconst 5, 1) := by decide +kernel
theorem dX6_gateValue_21 : decode cX6_gateValue 21 = .ok (.if_icmp .ne 7, 3) := by decide +kernel
theorem dX6_gateValue_24 : decode cX6_gateValue 24 = .ok (.iconst 1, 1) := by decide +kernel
theorem dX6_gateValue_25 : decode cX6_gateValue 25 = .ok (.iload_n 2, 1) := by decide +kernel
theorem dX6_gateValue_26 : decode cX6_gateValue 26 = .ok (.isub, 1) := by decide +kernel
theorem dX6_gateValue_27 : decode cX6_gateValue 27 = .ok (.ireturn, 1) := by decide +kernel
theorem dX6_gateValue_28 : decode cX6_gateValue 28 = .ok (.aload_n 0, 1) := by decide +kernel
theorem dX6_gateValue_29 : decode cX6_gateValue 29 = .ok (.getfield 35, 3) := by decide +kernel
theorem dX6_gateValue_32 : decode cX6_gateValue 32 = .ok (.iload_n 1, 1) := by decide +kernel
theorem dX6_gateValue_33 : decode cX6_gateValue 33 = .ok (.iaload, 1) := by decide +kernel
theorem dX6_gateValue_34 : decode cX6_gateValue 34 = .ok (.bipush 6, 2) := by decide +kernel
theorem dX6_gateValue_36 : decode cX6_gateValue 36 = .ok (.if_icmp .ne 5, 3) := by decide +kernel
theorem dX6_gateValue_39 : decode cX6_gateValue 39 = .ok (.iload_n 2, 1) := by decide +kernel
theorem dX6_gateValue_40 : decode cX6_gateValue 40 = .ok (.ireturn, 1) := by decide +kernel
theorem dX6_gateValue_41 : decode cX6_gateValue 41 = .ok (.aload_n 0, 1) := by decide +kernel
theorem dX6_gateValue_42 : decode cX6_gateValue 42 = .ok (.getfield 35, 3) := by decide +kernel
theorem dX6_gateValue_45 : decode cX6_gateValue 45 = .ok (.iload_n 1, 1) := by decide +kernel
theorem dX6_gateValue_46 : decode cX6_gateValue 46 = .ok (.iaload, 1) := by decide +kernel
theorem dX6_gateValue_47 : decode cX6_gateValue 47 = .ok (.bipush 7, 2) := by decide +kernel
theorem dX6_gateValue_49 : decode cX6_gateValue 49 = .ok (.if_icmp .ne 21, 3) := by decide +kernel
theorem dX6_gateValue_52 : decode cX6_gateValue 52 = .ok (.aload_n 0, 1) := by decide +kernel
theorem dX6_gateValue_53 : decode cX6_gateValue 53 = .ok (.getfield 58, 3) := by decide +kernel
theorem dX6_gateValue_56 : decode cX6_gateValue 56 = .ok (.aload_n 0, 1) := by decide +kernel
theorem dX6_gateValue_57 : decode cX6_gateValue 57 = .ok (.getfield 41, 3) := by decide +kernel
theorem dX6_gateValue_60 : decode cX6_gateValue 60 = .ok (.iconst 4, 1) := by decide +kernel
theorem dX6_gateValue_61 : decode cX6_gateValue 61 = .ok (.iload_n 1, 1) := by decide +kernel
theorem dX6_gateValue_62 : decode cX6_gateValue 62 = .ok (.imul, 1) := by decide +kernel
theorem dX6_gateValue_63 : decode cX6_gateValue 63 = .ok (.iconst 1, 1) := by decide +kernel
theorem dX6_gateValue_64 : decode cX6_gateValue 64 = .ok (.iadd, 1) := by decide +kernel
theorem dX6_gateValue_65 : decode cX6_gateValue 65 = .ok (.iload_n 2, 1) := by decide +kernel
theorem dX6_gateValue_66 : decode cX6_gateValue 66 = .ok (.iadd, 1) := by decide +kernel
theorem dX6_gateValue_67 : decode cX6_gateValue 67 = .ok (.iaload, 1) := by decide +kernel
theorem dX6_gateValue_68 : decode cX6_gateValue 68 = .ok (.iaload, 1) := by decide +kernel
theorem dX6_gateValue_69 : decode cX6_gateValue 69 = .ok (.ireturn, 1) := by decide +kernel
theorem dX6_gateValue_70 : decode cX6_gateValue 70 = .ok (.iload_n 2, 1) := by decide +kernel
theorem dX6_gateValue_71 : decode cX6_gateValue 71 = .ok (.istore_n 3, 1) := by decide +kernel
theorem dX6_gateValue_72 : decode cX6_gateValue 72 = .ok (.iconst 1, 1) := by decide +kernel
theorem dX6_gateValue_73 : decode cX6_gateValue 73 = .ok (.istore 4, 2) := by decide +kernel
theorem dX6_gateValue_75 : decode cX6_gateValue 75 = .ok (.iload 4, 2) := by decide +kernel
theorem dX6_gateValue_77 : decode cX6_gateValue 77 = .ok (.aload_n 0, 1) := by decide +kernel
theorem dX6_gateValue_78 : decode cX6_gateValue 78 = .ok (.getfield 38, 3) := by decide +kernel
theorem dX6_gateValue_81 : decode cX6_gateValue 81 = .ok (.iload_n 1, 1) := by decide +kernel
theorem dX6_gateValue_82 : decode cX6_gateValue 82 = .ok (.iaload, 1) := by decide +kernel
theorem dX6_gateValue_83 : decode cX6_gateValue 83 = .ok (.if_icmp .ge 75, 3) := by decide +kernel
theorem dX6_gateValue_86 : decode cX6_gateValue 86 = .ok (.aload_n 0, 1) := by decide +kernel
theorem dX6_gateValue_87 : decode cX6_gateValue 87 = .ok (.getfield 58, 3) := by decide +kernel
theorem dX6_gateValue_90 : decode cX6_gateValue 90 = .ok (.aload_n 0, 1) := by decide +kernel
theorem dX6_gateValue_91 : decode cX6_gateValue 91 = .ok (.getfield 41, 3) := by decide +kernel
theorem dX6_gateValue_94 : decode cX6_gateValue 94 = .ok (.iconst 4, 1) := by decide +kernel
theorem dX6_gateValue_95 : decode cX6_gateValue 95 = .ok (.iload_n 1, 1) := by decide +kernel
theorem dX6_gateValue_96 : decode cX6_gateValue 96 = .ok (.imul, 1) := by decide +kernel
theorem dX6_gateValue_97 : decode cX6_gateValue 97 = .ok (.iload 4, 2) := by decide +kernel
theorem dX6_gateValue_99 : decode cX6_gateValue 99 = .ok (.iadd, 1) := by decide +kernel
theorem dX6_gateValue_100 : decode cX6_gateValue 100 = .ok (.iaload, 1) := by decide +kernel
theorem dX6_gateValue_101 : decode cX6_gateValue 101 = .ok (.iaload, 1) := by decide +kernel
theorem dX6_gateValue_102 : decode cX6_gateValue 102 = .ok (.istore 5, 2) := by decide +kernel
theorem dX6_gateValue_104 : decode cX6_gateValue 104 = .ok (.aload_n 0, 1) := by decide +kernel
theorem dX6_gateValue_105 : decode cX6_gateValue 105 = .ok (.getfield 35, 3) := by decide +kernel
theorem dX6_gateValue_108 : decode cX6_gateValue 108 = .ok (.iload_n 1, 1) := by decide +kernel
theorem dX6_gateValue_109 : decode cX6_gateValue 109 = .ok (.iaload, 1) := by decide +kernel
theorem dX6_gateValue_110 : decode cX6_gateValue 110 = .ok (.ifCond .eq 13, 3) := by decide +kernel
theorem dX6_gateValue_113 : decode cX6_gateValue 113 = .ok (.aload_n 0, 1) := by decide +kernel
theorem dX6_gateValue_114 : decode cX6_gateValue 114 = .ok (.getfield 35, 3) := by decide +kernel
theorem dX6_gateValue_117 : decode cX6_gateValue 117 = .ok (.iload_n 1, 1) := by decide +kernel
theorem dX6_gateValue_118 : decode cX6_gateValue 118 = .ok (.iaload, 1) := by decide +kernel
theorem dX6_gateValue_119 : decode cX6_gateValue 119 = .ok (.iconst 3, 1) := by decide +kernel
theorem dX6_gateValue_120 : decode cX6_gateValue 120 = .ok (.if_icmp .ne 10, 3) := by decide +kernel
theorem dX6_gateValue_123 : decode cX6_gateValue 123 = .ok (.iload_n 3, 1) := by decide +kernel
theorem dX6_gateValue_124 : decode cX6_gateValue 124 = .ok (.iload 5, 2) := by decide +kernel
theorem dX6_gateValue_126 : decode cX6_gateValue 126 = .ok (.iand, 1) := by decide +kernel
theorem dX6_gateValue_127 : decode cX6_gateValue 127 = .ok (.goto 24, 3) := by decide +kernel
theorem dX6_gateValue_130 : decode cX6_gateValue 130 = .ok (.aload_n 0, 1) := by decide +kernel
theorem dX6_gateValue_131 : decode cX6_gateValue 131 = .ok (.getfield 35, 3) := by decide +kernel
theorem dX6_gateValue_134 : decode cX6_gateValue 134 = .ok (.iload_n 1, 1) := by decide +kernel
theorem dX6_gateValue_135 : decode cX6_gateValue 135 = .ok (.iaload, 1) := by decide +kernel
theorem dX6_gateValue_136 : decode cX6_gateValue 136 = .ok (.iconst 2, 1) := by decide +kernel
theorem dX6_gateValue_137 : decode cX6_gateValue 137 = .ok (.if_icmp .ne 10, 3) := by decide +kernel
theorem dX6_gateValue_140 : decode cX6_gateValue 140 = .ok (.iload_n 3, 1) := by decide +kernel
theorem dX6_gateValue_141 : decode cX6_gateValue 141 = .ok (.iload 5, 2) := by decide +kernel
theorem dX6_gateValue_143 : decode cX6_gateValue 143 = .ok (.ixor, 1) := by decide +kernel
theorem dX6_gateValue_144 : decode cX6_gateValue 144 = .ok (.goto 7, 3) := by decide +kernel
theorem dX6_gateValue_147 : decode cX6_gateValue 147 = .ok (.iload_n 3, 1) := by decide +kernel
theorem dX6_gateValue_148 : decode cX6_gateValue 148 = .ok (.iload 5, 2) := by decide +kernel
theorem dX6_gateValue_150 : decode cX6_gateValue 150 = .ok (.ior, 1) := by decide +kernel
theorem dX6_gateValue_151 : decode cX6_gateValue 151 = .ok (.istore_n 3, 1) := by decide +kernel
theorem dX6_gateValue_152 : decode cX6_gateValue 152 = .ok (.iinc 4 1, 3) := by decide +kernel
theorem dX6_gateValue_155 : decode cX6_gateValue 155 = .ok (.goto (-80), 3) := by decide +kernel
theorem dX6_gateValue_158 : decode cX6_gateValue 158 = .ok (.aload_n 0, 1) := by decide +kernel
theorem dX6_gateValue_159 : decode cX6_gateValue 159 = .ok (.getfield 35, 3) := by decide +kernel
theorem dX6_gateValue_162 : decode cX6_gateValue 162 = .ok (.iload_n 1, 1) := by decide +kernel
theorem dX6_gateValue_163 : decode cX6_gateValue 163 = .ok (.iaload, 1) := by decide +kernel
theorem dX6_gateValue_164 : decode cX6_gateValue 164 = .ok (.iconst 3, 1) := by decide +kernel
theorem dX6_gateValue_165 : decode cX6_gateValue 165 = .ok (.if_icmp .eq 13, 3) := by decide +kernel
theorem dX6_gateValue_168 : decode cX6_gateValue 168 = .ok (.aload_n 0, 1) := by decide +kernel
theorem dX6_gateValue_169 : decode cX6_gateValue 169 = .ok (.getfield 35, 3) := by decide +kernel
theorem dX6_gateValue_172 : decode cX6_gateValue 172 = .ok (.iload_n 1, 1) := by decide +kernel
theorem dX6_gateValue_173 : decode cX6_gateValue 173 = .ok (.iaload, 1) := by decide +kernel
theorem dX6_gateValue_174 : decode cX6_gateValue 174 = .ok (.iconst 4, 1) := by decide +kernel
theorem dX6_gateValue_175 : decode cX6_gateValue 175 = .ok (.if_icmp .ne 9, 3) := by decide +kernel
theorem dX6_gateValue_178 : decode cX6_gateValue 178 = .ok (.iconst 1, 1) := by decide +kernel
theorem dX6_gateValue_179 : decode cX6_gateValue 179 = .ok (.iload_n 3, 1) := by decide +kernel
theorem dX6_gateValue_180 : decode cX6_gateValue 180 = .ok (.isub, 1) := by decide +kernel
theorem dX6_gateValue_181 : decode cX6_gateValue 181 = .ok (.goto 4, 3) := by decide +kernel
theorem dX6_gateValue_184 : decode cX6_gateValue 184 = .ok (.iload_n 3, 1) := by decide +kernel
theorem dX6_gateValue_185 : decode cX6_gateValue 185 = .ok (.ireturn, 1) := by decide +kernel
theorem dX6_settle_0 : decode cX6_settle 0 = .ok (.iconst 0, 1) := by decide +kernel
theorem dX6_settle_1 : decode cX6_settle 1 = .ok (.istore_n 3, 1) := by decide +kernel
theorem dX6_settle_2 : decode cX6_settle 2 = .ok (.iload_n 3, 1) := by decide +kernel
theorem dX6_settle_3 : decode cX6_settle 3 = .ok (.aload_n 0, 1) := by decide +kernel
theorem dX6_settle_4 : decode cX6_settle 4 = .ok (.getfield 167, 3) := by decide +kernel
theorem dX6_settle_7 : decode cX6_settle 7 = .ok (.if_icmp .ge 59, 3) := by decide +kernel
theorem dX6_settle_10 : decode cX6_settle 10 = .ok (.aload_n 0, 1) := by decide +kernel
theorem dX6_settle_11 : decode cX6_settle 11 = .ok (.getfield 35, 3) := by decide +kernel
theorem dX6_settle_14 : decode cX6_settle 14 = .ok (.iload_n 3, 1) := by decide +kernel
theorem dX6_settle_15 : decode cX6_settle 15 = .ok (.iaload, 1) := by decide +kernel
theorem dX6_settle_16 : decode cX6_settle 16 = .ok (.iconst (-1), 1) := by decide +kernel
theorem dX6_settle_17 : decode cX6_settle 17 = .ok (.if_icmp .ne 11, 3) := by decide +kernel
theorem dX6_settle_20 : decode cX6_settle 20 = .ok (.iload_n 1, 1) := by decide +kernel
theorem dX6_settle_21 : decode cX6_settle 21 = .ok (.iload_n 3, 1) := by decide +kernel
theorem dX6_settle_22 : decode cX6_settle 22 = .ok (.ishr, 1) := by decide +kernel
theorem dX6_settle_23 : decode cX6_settle 23 = .ok (.iconst 1, 1) := by decide +kernel
theorem dX6_settle_24 : decode cX6_settle 24 = .ok (.iand, 1) := by decide +kernel
theorem dX6_settle_25 : decode cX6_settle 25 = .ok (.goto 8, 3) := by decide +kernel
theorem dX6_settle_28 : decode cX6_settle 28 = .ok (.aload_n 0, 1) := by decide +kernel
theorem dX6_settle_29 : decode cX6_settle 29 = .ok (.iload_n 3, 1) := by decide +kernel
theorem dX6_settle_30 : decode cX6_settle 30 = .ok (.invokevirtual 186, 3) := by decide +kernel
theorem dX6_settle_33 : decode cX6_settle 33 = .ok (.istore 4, 2) := by decide +kernel
theorem dX6_settle_35 : decode cX6_settle 35 = .ok (.aload_n 0, 1) := by decide +kernel
theorem dX6_settle_36 : decode cX6_settle 36 = .ok (.getfield 58, 3) := by decide +kernel
theorem dX6_settle_39 : decode cX6_settle 39 = .ok (.iload_n 3, 1) := by decide +kernel
theorem dX6_settle_40 : decode cX6_settle 40 = .ok (.iload_n 2, 1) := by decide +kernel
theorem dX6_settle_41 : decode cX6_settle 41 = .ok (.ifCond .lt 16, 3) := by decide +kernel
theorem dX6_settle_44 : decode cX6_settle 44 = .ok (.iload_n 2, 1) := by decide +kernel
theorem dX6_settle_45 : decode cX6_settle 45 = .ok (.iconst 2, 1) := by decide +kernel
theorem dX6_settle_46 : decode cX6_settle 46 = .ok (.idiv, 1) := by decide +kernel
theorem dX6_settle_47 : decode cX6_settle 47 = .ok (.iload_n 3, 1) := by decide +kernel
theorem dX6_settle_48 : decode cX6_settle 48 = .ok (.if_icmp .ne 9, 3) := by decide +kernel
theorem dX6_settle_51 : decode cX6_settle 51 = .ok (.iload_n 2, 1) := by decide +kernel
theorem dX6_settle_52 : decode cX6_settle 52 = .ok (.iconst 2, 1) := by decide +kernel
theorem dX6_settle_53 : decode cX6_settle 53 = .ok (.irem, 1) := by decide +kernel
theorem dX6_settle_54 : decode cX6_settle 54 = .ok (.goto 5, 3) := by decide +kernel
theorem dX6_settle_57 : decode cX6_settle 57 = .ok (.iload 4, 2) := by decide +kernel
theorem dX6_settle_59 : decode cX6_settle 59 = .ok (.iastore, 1) := by decide +kernel
theorem dX6_settle_60 : decode cX6_settle 60 = .ok (.iinc 3 1, 3) := by decide +kernel
theorem dX6_settle_63 : decode cX6_settle 63 = .ok (.goto (-61), 3) := by decide +kernel
theorem dX6_settle_66 : decode cX6_settle 66 = .ok (.return_, 1) := by decide +kernel
theorem dX6_answerOf_0 : decode cX6_answerOf 0 = .ok (.aload_n 0, 1) := by decide +kernel
theorem dX6_answerOf_1 : decode cX6_answerOf 1 = .ok (.iload_n 1, 1) := by decide +kernel
theorem dX6_answerOf_2 : decode cX6_answerOf 2 = .ok (.iload_n 2, 1) := by decide +kernel
theorem dX6_answerOf_3 : decode cX6_answerOf 3 = .ok (.invokevirtual 189, 3) := by decide +kernel
theorem dX6_answerOf_6 : decode cX6_answerOf 6 = .ok (.iconst 0, 1) := by decide +kernel
theorem dX6_answerOf_7 : decode cX6_answerOf 7 = .ok (.istore_n 3, 1) := by decide +kernel
theorem dX6_answerOf_8 : decode cX6_answerOf 8 = .ok (.iconst 0, 1) := by decide +kernel
theorem dX6_answerOf_9 : decode cX6_answerOf 9 = .ok (.istore 4, 2) := by decide +kernel
theorem dX6_answerOf_11 : decode cX6_answerOf 11 = .ok (.iload 4, 2) := by decide +kernel
theorem dX6_answerOf_13 : decode cX6_answerOf 13 = .ok (.aload_n 0, 1) := by decide +kernel
theorem dX6_answerOf_14 : decode cX6_answerOf 14 = .ok (.getfield 176, 3) := by decide +kernel
theorem dX6_answerOf_17 : decode cX6_answerOf 17 = .ok (.if_icmp .ge 27, 3) := by decide +kernel
theorem dX6_answerOf_20 : decode cX6_answerOf 20 = .ok (.iload_n 3, 1) := by decide +kernel
theorem dX6_answerOf_21 : decode cX6_answerOf 21 = .ok (.aload_n 0, 1) := by decide +kernel
theorem dX6_answerOf_22 : decode cX6_answerOf 22 = .ok (.getfield 58, 3) := by decide +kernel
theorem dX6_answerOf_25 : decode cX6_answerOf 25 = .ok (.aload_n 0, 1) := by decide +kernel
theorem dX6_answerOf_26 : decode cX6_answerOf 26 = .ok (.getfield 47, 3) := by decide +kernel
theorem dX6_answerOf_29 : decode cX6_answerOf 29 = .ok (.iload 4, 2) := by decide +kernel
theorem dX6_answerOf_31 : decode cX6_answerOf 31 = .ok (.iaload, 1) := by decide +kernel
theorem dX6_answerOf_32 : decode cX6_answerOf 32 = .ok (.iaload, 1) := by decide +kernel
theorem dX6_answerOf_33 : decode cX6_answerOf 33 = .ok (.iload 4, 2) := by decide +kernel
theorem dX6_answerOf_35 : decode cX6_answerOf 35 = .ok (.ishl, 1) := by decide +kernel
theorem dX6_answerOf_36 : decode cX6_answerOf 36 = .ok (.ior, 1) := by decide +kernel
theorem dX6_answerOf_37 : decode cX6_answerOf 37 = .ok (.istore_n 3, 1) := by decide +kernel
theorem dX6_answerOf_38 : decode cX6_answerOf 38 = .ok (.iinc 4 1, 3) := by decide +kernel
theorem dX6_answerOf_41 : decode cX6_answerOf 41 = .ok (.goto (-30), 3) := by decide +kernel
theorem dX6_answerOf_44 : decode cX6_answerOf 44 = .ok (.iconst 0, 1) := by decide +kernel
theorem dX6_answerOf_45 : decode cX6_answerOf 45 = .ok (.istore 4, 2) := by decide +kernel
theorem dX6_answerOf_47 : decode cX6_answerOf 47 = .ok (.iload 4, 2) := by decide +kernel
theorem dX6_answerOf_49 : decode cX6_answerOf 49 = .ok (.aload_n 0, 1) := by decide +kernel
theorem dX6_answerOf_50 : decode cX6_answerOf 50 = .ok (.getfield 173, 3) := by decide +kernel
theorem dX6_answerOf_53 : decode cX6_answerOf 53 = .ok (.if_icmp .ge 60, 3) := by decide +kernel
theorem dX6_answerOf_56 : decode cX6_answerOf 56 = .ok (.aload_n 0, 1) := by decide +kernel
theorem dX6_answerOf_57 : decode cX6_answerOf 57 = .ok (.getfield 44, 3) := by decide +kernel
theorem dX6_answerOf_60 : decode cX6_answerOf 60 = .ok (.iload 4, 2) := by decide +kernel
theorem dX6_answerOf_62 : decode cX6_answerOf 62 = .ok (.iaload, 1) := by decide +kernel
theorem dX6_answerOf_63 : decode cX6_answerOf 63 = .ok (.ifCond .ge 17, 3) := by decide +kernel
theorem dX6_answerOf_66 : decode cX6_answerOf 66 = .ok (.iload_n 1, 1) := by decide +kernel
theorem dX6_answerOf_67 : decode cX6_answerOf 67 = .ok (.aload_n 0, 1) := by decide +kernel
theorem dX6_answerOf_68 : decode cX6_answerOf 68 = .ok (.getfield 170, 3) := by decide +kernel
theorem dX6_answerOf_71 : decode cX6_answerOf 71 = .ok (.iload 4, 2) := by decide +kernel
theorem dX6_answerOf_73 : decode cX6_answerOf 73 = .ok (.iadd, 1) := by decide +kernel
theorem dX6_answerOf_74 : decode cX6_answerOf 74 = .ok (.ishr, 1) := by decide +kernel
theorem dX6_answerOf_75 : decode cX6_answerOf 75 = .ok (.iconst 1, 1) := by decide +kernel
theorem dX6_answerOf_76 : decode cX6_answerOf 76 = .ok (.iand, 1) := by decide +kernel
theorem dX6_answerOf_77 : decode cX6_answerOf 77 = .ok (.goto 15, 3) := by decide +kernel
theorem dX6_answerOf_80 : decode cX6_answerOf 80 = .ok (.aload_n 0, 1) := by decide +kernel
theorem dX6_answerOf_81 : decode cX6_answerOf 81 = .ok (.getfield 58, 3) := by decide +kernel
theorem dX6_answerOf_84 : decode cX6_answerOf 84 = .ok (.aload_n 0, 1) := by decide +kernel
theorem dX6_answerOf_85 : decode cX6_answerOf 85 = .ok (.getfield 44, 3) := by decide +kernel
theorem dX6_answerOf_88 : decode cX6_answerOf 88 = .ok (.iload 4, 2) := by decide +kernel
theorem dX6_answerOf_90 : decode cX6_answerOf 90 = .ok (.iaload, 1) := by decide +kernel
theorem dX6_answerOf_91 : decode cX6_answerOf 91 = .ok (.iaload, 1) := by decide +kernel
theorem dX6_answerOf_92 : decode cX6_answerOf 92 = .ok (.istore 5, 2) := by decide +kernel
theorem dX6_answerOf_94 : decode cX6_answerOf 94 = .ok (.iload_n 3, 1) := by decide +kernel
theorem dX6_answerOf_95 : decode cX6_answerOf 95 = .ok (.iload 5, 2) := by decide +kernel
theorem dX6_answerOf_97 : decode cX6_answerOf 97 = .ok (.aload_n 0, 1) := by decide +kernel
theorem dX6_answerOf_98 : decode cX6_answerOf 98 = .ok (.getfield 176, 3) := by decide +kernel
theorem dX6_answerOf_101 : decode cX6_answerOf 101 = .ok (.iload 4, 2) := by decide +kernel
theorem dX6_answerOf_103 : decode cX6_answerOf 103 = .ok (.iadd, 1) := by decide +kernel
theorem dX6_answerOf_104 : decode cX6_answerOf 104 = .ok (.ishl, 1) := by decide +kernel
theorem dX6_answerOf_105 : decode cX6_answerOf 105 = .ok (.ior, 1) := by decide +kernel
theorem dX6_answerOf_106 : decode cX6_answerOf 106 = .ok (.istore_n 3, 1) := by decide +kernel
theorem dX6_answerOf_107 : decode cX6_answerOf 107 = .ok (.iinc 4 1, 3) := by decide +kernel
theorem dX6_answerOf_110 : decode cX6_answerOf 110 = .ok (.goto (-63), 3) := by decide +kernel
theorem dX6_answerOf_113 : decode cX6_answerOf 113 = .ok (.iload_n 3, 1) := by decide +kernel
theorem dX6_answerOf_114 : decode cX6_answerOf 114 = .ok (.ireturn, 1) := by decide +kernel
theorem dX6_patterns_0 : decode cX6_patterns 0 = .ok (.iconst 1, 1) := by decide +kernel
theorem dX6_patterns_1 : decode cX6_patterns 1 = .ok (.aload_n 0, 1) := by decide +kernel
theorem dX6_patterns_2 : decode cX6_patterns 2 = .ok (.getfield 170, 3) := by decide +kernel
theorem dX6_patterns_5 : decode cX6_patterns 5 = .ok (.aload_n 0, 1) := by decide +kernel
theorem dX6_patterns_6 : decode cX6_patterns 6 = .ok (.getfield 173, 3) := by decide +kernel
theorem dX6_patterns_9 : decode cX6_patterns 9 = .ok (.iadd, 1) := by decide +kernel
theorem dX6_patterns_10 : decode cX6_patterns 10 = .ok (.ishl, 1) := by decide +kernel
theorem dX6_patterns_11 : decode cX6_patterns 11 = .ok (.ireturn, 1) := by decide +kernel
theorem dX6_showsWith_0 : decode cX6_showsWith 0 = .ok (.iconst 0, 1) := by decide +kernel
theorem dX6_showsWith_1 : decode cX6_showsWith 1 = .ok (.istore 4, 2) := by decide +kernel
theorem dX6_showsWith_3 : decode cX6_showsWith 3 = .ok (.iload 4, 2) := by decide +kernel
theorem dX6_showsWith_5 : decode cX6_showsWith 5 = .ok (.aload_n 0, 1) := by decide +kernel
theorem dX6_showsWith_6 : decode cX6_showsWith 6 = .ok (.invokevirtual 192, 3) := by decide +kernel
theorem dX6_showsWith_9 : decode cX6_showsWith 9 = .ok (.if_icmp .ge 35, 3) := by decide +kernel
theorem dX6_showsWith_12 : decode cX6_showsWith 12 = .ok (.iload 4, 2) := by decide +kernel
theorem dX6_showsWith_14 : decode cX6_showsWith 14 = .ok (.iload_n 3, 1) := by decide +kernel
theorem dX6_showsWith_15 : decode cX6_showsWith 15 = .ok (.iand, 1) := by decide +kernel
theorem dX6_showsWith_16 : decode cX6_showsWith 16 = .ok (.iload_n 2, 1) := by decide +kernel
theorem dX6_showsWith_17 : decode cX6_showsWith 17 = .ok (.if_icmp .ne 21, 3) := by decide +kernel
theorem dX6_showsWith_20 : decode cX6_showsWith 20 = .ok (.aload_n 0, 1) := by decide +kernel
theorem dX6_showsWith_21 : decode cX6_showsWith 21 = .ok (.getfield 51, 3) := by decide +kernel
theorem dX6_showsWith_24 : decode cX6_showsWith 24 = .ok (.sipush 1024, 3) := by decide +kernel
theorem dX6_showsWith_27 : decode cX6_showsWith 27 = .ok (.iload_n 1, 1) := by decide +kernel
theorem dX6_showsWith_28 : decode cX6_showsWith 28 = .ok (.imul, 1) := by decide +kernel
theorem dX6_showsWith_29 : decode cX6_showsWith 29 = .ok (.iload 4, 2) := by decide +kernel
theorem dX6_showsWith_31 : decode cX6_showsWith 31 = .ok (.iadd, 1) := by decide +kernel
theorem dX6_showsWith_32 : decode cX6_showsWith 32 = .ok (.baload, 1) := by decide +kernel
theorem dX6_showsWith_33 : decode cX6_showsWith 33 = .ok (.ifCond .ne 5, 3) := by decide +kernel
theorem dX6_showsWith_36 : decode cX6_showsWith 36 = .ok (.iconst 0, 1) := by decide +kernel
theorem dX6_showsWith_37 : decode cX6_showsWith 37 = .ok (.ireturn, 1) := by decide +kernel
theorem dX6_showsWith_38 : decode cX6_showsWith 38 = .ok (.iinc 4 1, 3) := by decide +kernel
theorem dX6_showsWith_41 : decode cX6_showsWith 41 = .ok (.goto (-38), 3) := by decide +kernel
theorem dX6_showsWith_44 : decode cX6_showsWith 44 = .ok (.iconst 1, 1) := by decide +kernel
theorem dX6_showsWith_45 : decode cX6_showsWith 45 = .ok (.ireturn, 1) := by decide +kernel
theorem dX6_leastOf_0 : decode cX6_leastOf 0 = .ok (.iconst 0, 1) := by decide +kernel
theorem dX6_leastOf_1 : decode cX6_leastOf 1 = .ok (.istore_n 2, 1) := by decide +kernel
theorem dX6_leastOf_2 : decode cX6_leastOf 2 = .ok (.iload_n 2, 1) := by decide +kernel
theorem dX6_leastOf_3 : decode cX6_leastOf 3 = .ok (.aload_n 0, 1) := by decide +kernel
theorem dX6_leastOf_4 : decode cX6_leastOf 4 = .ok (.invokevirtual 192, 3) := by decide +kernel
theorem dX6_leastOf_7 : decode cX6_leastOf 7 = .ok (.if_icmp .ge 26, 3) := by decide +kernel
theorem dX6_leastOf_10 : decode cX6_leastOf 10 = .ok (.aload_n 0, 1) := by decide +kernel
theorem dX6_leastOf_11 : decode cX6_leastOf 11 = .ok (.getfield 51, 3) := by decide +kernel
theorem dX6_leastOf_14 : decode cX6_leastOf 14 = .ok (.sipush 1024, 3) := by decide +kernel
theorem dX6_leastOf_17 : decode cX6_leastOf 17 = .ok (.iload_n 1, 1) := by decide +kernel
theorem dX6_leastOf_18 : decode cX6_leastOf 18 = .ok (.imul, 1) := by decide +kernel
theorem dX6_leastOf_19 : decode cX6_leastOf 19 = .ok (.iload_n 2, 1) := by decide +kernel
theorem dX6_leastOf_20 : decode cX6_leastOf 20 = .ok (.iadd, 1) := by decide +kernel
theorem dX6_leastOf_21 : decode cX6_leastOf 21 = .ok (.baload, 1) := by decide +kernel
theorem dX6_leastOf_22 : decode cX6_leastOf 22 = .ok (.ifCond .eq 5, 3) := by decide +kernel
theorem dX6_leastOf_25 : decode cX6_leastOf 25 = .ok (.iload_n 2, 1) := by decide +kernel
theorem dX6_leastOf_26 : decode cX6_leastOf 26 = .ok (.ireturn, 1) := by decide +kernel
theorem dX6_leastOf_27 : decode cX6_leastOf 27 = .ok (.iinc 2 1, 3) := by decide +kernel
theorem dX6_leastOf_30 : decode cX6_leastOf 30 = .ok (.goto (-28), 3) := by decide +kernel
theorem dX6_leastOf_33 : decode cX6_leastOf 33 = .ok (.iconst (-1), 1) := by decide +kernel
theorem dX6_leastOf_34 : decode cX6_leastOf 34 = .ok (.ireturn, 1) := by decide +kernel
theorem dX6_fixOf_0 : decode cX6_fixOf 0 = .ok (.aload_n 0, 1) := by decide +kernel
theorem dX6_fixOf_1 : decode cX6_fixOf 1 = .ok (.iload_n 1, 1) := by decide +kernel
theorem dX6_fixOf_2 : decode cX6_fixOf 2 = .ok (.invokevirtual 195, 3) := by decide +kernel
theorem dX6_fixOf_5 : decode cX6_fixOf 5 = .ok (.istore_n 2, 1) := by decide +kernel
theorem dX6_fixOf_6 : decode cX6_fixOf 6 = .ok (.aload_n 0, 1) := by decide +kernel
theorem dX6_fixOf_7 : decode cX6_fixOf 7 = .ok (.invokevirtual 192, 3) := by decide +kernel
theorem dX6_fixOf_10 : decode cX6_fixOf 10 = .ok (.iconst 1, 1) := by decide +kernel
theorem dX6_fixOf_11 : decode cX6_fixOf 11 = .ok (.isub, 1) := by decide +kernel
theorem dX6_fixOf_12 : decode cX6_fixOf 12 = .ok (.istore_n 3, 1) := by decide +kernel
theorem dX6_fixOf_13 : decode cX6_fixOf 13 = .ok (.iconst 0, 1) := by decide +kernel
theorem dX6_fixOf_14 : decode cX6_fixOf 14 = .ok (.istore 4, 2) := by decide +kernel
theorem dX6_fixOf_16 : decode cX6_fixOf 16 = .ok (.iload 4, 2) := by decide +kernel
theorem dX6_fixOf_18 : decode cX6_fixOf 18 = .ok (.aload_n 0, 1) := by decide +kernel
theorem dX6_fixOf_19 : decode cX6_fixOf 19 = .ok (.getfield 170, 3) := by decide +kernel
theorem dX6_fixOf_22 : decode cX6_fixOf 22 = .ok (.aload_n 0, 1) := by decide +kernel
theorem dX6_fixOf_23 : decode cX6_fixOf 23 = .ok (.getfield 173, 3) := by decide +kernel
theorem dX6_fixOf_26 : decode cX6_fixOf 26 = .ok (.iadd, 1) := by decide +kernel
theorem dX6_fixOf_27 : decode cX6_fixOf 27 = .ok (.if_icmp .ge 40, 3) := by decide +kernel
theorem dX6_fixOf_30 : decode cX6_fixOf 30 = .ok (.iload_n 3, 1) := by decide +kernel
theorem dX6_fixOf_31 : decode cX6_fixOf 31 = .ok (.iconst 1, 1) := by decide +kernel
theorem dX6_fixOf_32 : decode cX6_fixOf 32 = .ok (.iload 4, 2) := by decide +kernel
theorem dX6_fixOf_34 : decode cX6_fixOf 34 = .ok (.ishl, 1) := by decide +kernel
theorem dX6_fixOf_35 : decode cX6_fixOf 35 = .ok (.iconst (-1), 1) := by decide +kernel
theorem dX6_fixOf_36 : decode cX6_fixOf 36 = .ok (.ixor, 1) := by decide +kernel
theorem dX6_fixOf_37 : decode cX6_fixOf 37 = .ok (.iand, 1) := by decide +kernel
theorem dX6_fixOf_38 : decode cX6_fixOf 38 = .ok (.istore 5, 2) := by decide +kernel
theorem dX6_fixOf_40 : decode cX6_fixOf 40 = .ok (.aload_n 0, 1) := by decide +kernel
theorem dX6_fixOf_41 : decode cX6_fixOf 41 = .ok (.iload_n 1, 1) := by decide +kernel
theorem dX6_fixOf_42 : decode cX6_fixOf 42 = .ok (.iload_n 2, 1) := by decide +kernel
theorem dX6_fixOf_43 : decode cX6_fixOf 43 = .ok (.iload 5, 2) := by decide +kernel
theorem dX6_fixOf_45 : decode cX6_fixOf 45 = .ok (.iand, 1) := by decide +kernel
theorem dX6_fixOf_46 : decode cX6_fixOf 46 = .ok (.iload 5, 2) := by decide +kernel
theorem dX6_fixOf_48 : decode cX6_fixOf 48 = .ok (.invokevirtual 198, 3) := by decide +kernel
theorem dX6_fixOf_51 : decode cX6_fixOf 51 = .ok (.ifCond .eq 8, 3) := by decide +kernel
theorem dX6_fixOf_54 : decode cX6_fixOf 54 = .ok (.iload 5, 2) := by decide +kernel
theorem dX6_fixOf_56 : decode cX6_fixOf 56 = .ok (.goto 4, 3) := by decide +kernel
theorem dX6_fixOf_59 : decode cX6_fixOf 59 = .ok (.iload_n 3, 1) := by decide +kernel
theorem dX6_fixOf_60 : decode cX6_fixOf 60 = .ok (.istore_n 3, 1) := by decide +kernel
theorem dX6_fixOf_61 : decode cX6_fixOf 61 = .ok (.iinc 4 1, 3) := by decide +kernel
theorem dX6_fixOf_64 : decode cX6_fixOf 64 = .ok (.goto (-48), 3) := by decide +kernel
theorem dX6_fixOf_67 : decode cX6_fixOf 67 = .ok (.iload_n 3, 1) := by decide +kernel
theorem dX6_fixOf_68 : decode cX6_fixOf 68 = .ok (.ireturn, 1) := by decide +kernel
theorem dX6_choose_0 : decode cX6_choose 0 = .ok (.iconst 0, 1) := by decide +kernel
theorem dX6_choose_1 : decode cX6_choose 1 = .ok (.istore_n 2, 1) := by decide +kernel
theorem dX6_choose_2 : decode cX6_choose 2 = .ok (.iload_n 2, 1) := by decide +kernel
theorem dX6_choose_3 : decode cX6_choose 3 = .ok (.aload_n 0, 1) := by decide +kernel
theorem dX6_choose_4 : decode cX6_choose 4 = .ok (.getfield 202, 3) := by decide +kernel
theorem dX6_choose_7 : decode cX6_choose 7 = .ok (.if_icmp .ge 30, 3) := by decide +kernel
theorem dX6_choose_10 : decode cX6_choose 10 = .ok (.aload_n 0, 1) := by decide +kernel
theorem dX6_choose_11 : decode cX6_choose 11 = .ok (.iload_n 1, 1) := by decide +kernel
theorem dX6_choose_12 : decode cX6_choose 12 = .ok (.aload_n 0, 1) := by decide +kernel
theorem dX6_choose_13 : decode cX6_choose 13 = .ok (.getfield 61, 3) := by decide +kernel
theorem dX6_choose_16 : decode cX6_choose 16 = .ok (.iload_n 2, 1) := by decide +kernel
theorem dX6_choose_17 : decode cX6_choose 17 = .ok (.iaload, 1) := by decide +kernel
theorem dX6_choose_18 : decode cX6_choose 18 = .ok (.aload_n 0, 1) := by decide +kernel
theorem dX6_choose_19 : decode cX6_choose 19 = .ok (.getfield 64, 3) := by decide +kernel
theorem dX6_choose_22 : decode cX6_choose 22 = .ok (.iload_n 2, 1) := by decide +kernel
theorem dX6_choose_23 : decode cX6_choose 23 = .ok (.iaload, 1) := by decide +kernel
theorem dX6_choose_24 : decode cX6_choose 24 = .ok (.invokevirtual 198, 3) := by decide +kernel
theorem dX6_choose_27 : decode cX6_choose 27 = .ok (.ifCond .eq 4, 3) := by decide +kernel
theorem dX6_choose_30 : decode cX6_choose 30 = .ok (.return_, 1) := by decide +kernel
theorem dX6_choose_31 : decode cX6_choose 31 = .ok (.iinc 2 1, 3) := by decide +kernel
theorem dX6_choose_34 : decode cX6_choose 34 = .ok (.goto (-32), 3) := by decide +kernel
theorem dX6_choose_37 : decode cX6_choose 37 = .ok (.aload_n 0, 1) := by decide +kernel
theorem dX6_choose_38 : decode cX6_choose 38 = .ok (.iload_n 1, 1) := by decide +kernel
theorem dX6_choose_39 : decode cX6_choose 39 = .ok (.invokevirtual 205, 3) := by decide +kernel
theorem dX6_choose_42 : decode cX6_choose 42 = .ok (.istore_n 2, 1) := by decide +kernel
theorem dX6_choose_43 : decode cX6_choose 43 = .ok (.aload_n 0, 1) := by decide +kernel
theorem dX6_choose_44 : decode cX6_choose 44 = .ok (.iload_n 1, 1) := by decide +kernel
theorem dX6_choose_45 : decode cX6_choose 45 = .ok (.invokevirtual 195, 3) := by decide +kernel
theorem dX6_choose_48 : decode cX6_choose 48 = .ok (.iload_n 2, 1) := by decide +kernel
theorem dX6_choose_49 : decode cX6_choose 49 = .ok (.iand, 1) := by decide +kernel
theorem dX6_choose_50 : decode cX6_choose 50 = .ok (.istore_n 3, 1) := by decide +kernel
theorem dX6_choose_51 : decode cX6_choose 51 = .ok (.iconst 0, 1) := by decide +kernel
theorem dX6_choose_52 : decode cX6_choose 52 = .ok (.istore 4, 2) := by decide +kernel
theorem dX6_choose_54 : decode cX6_choose 54 = .ok (.iload 4, 2) := by decide +kernel
theorem dX6_choose_56 : decode cX6_choose 56 = .ok (.aload_n 0, 1) := by decide +kernel
theorem dX6_choose_57 : decode cX6_choose 57 = .ok (.getfield 202, 3) := by decide +kernel
theorem dX6_choose_60 : decode cX6_choose 60 = .ok (.if_icmp .ge 64, 3) := by decide +kernel
theorem dX6_choose_63 : decode cX6_choose 63 = .ok (.iload_n 3, 1) := by decide +kernel
theorem dX6_choose_64 : decode cX6_choose 64 = .ok (.aload_n 0, 1) := by decide +kernel
theorem dX6_choose_65 : decode cX6_choose 65 = .ok (.getfield 61, 3) := by decide +kernel
theorem dX6_choose_68 : decode cX6_choose 68 = .ok (.iload 4, 2) := by decide +kernel
theorem dX6_choose_70 : decode cX6_choose 70 = .ok (.iaload, 1) := by decide +kernel
theorem dX6_choose_71 : decode cX6_choose 71 = .ok (.ixor, 1) := by decide +kernel
theorem dX6_choose_72 : decode cX6_choose 72 = .ok (.iload_n 2, 1) := by decide +kernel
theorem dX6_choose_73 : decode cX6_choose 73 = .ok (.iand, 1) := by decide +kernel
theorem dX6_choose_74 : decode cX6_choose 74 = .ok (.aload_n 0, 1) := by decide +kernel
theorem dX6_choose_75 : decode cX6_choose 75 = .ok (.getfield 64, 3) := by decide +kernel
theorem dX6_choose_78 : decode cX6_choose 78 = .ok (.iload 4, 2) := by decide +kernel
theorem dX6_choose_80 : decode cX6_choose 80 = .ok (.iaload, 1) := by decide +kernel
theorem dX6_choose_81 : decode cX6_choose 81 = .ok (.iand, 1) := by decide +kernel
theorem dX6_choose_82 : decode cX6_choose 82 = .ok (.ifCond .ne 36, 3) := by decide +kernel
theorem dX6_choose_85 : decode cX6_choose 85 = .ok (.aload_n 0, 1) := by decide +kernel
theorem dX6_choose_86 : decode cX6_choose 86 = .ok (.getfield 61, 3) := by decide +kernel
theorem dX6_choose_89 : decode cX6_choose 89 = .ok (.iload 4, 2) := by decide +kernel
theorem dX6_choose_91 : decode cX6_choose 91 = .ok (.aload_n 0, 1) := by decide +kernel
theorem dX6_choose_92 : decode cX6_choose 92 = .ok (.getfield 61, 3) := by decide +kernel
theorem dX6_choose_95 : decode cX6_choose 95 = .ok (.iload 4, 2) := by decide +kernel
theorem dX6_choose_97 : decode cX6_choose 97 = .ok (.iaload, 1) := by decide +kernel
theorem dX6_choose_98 : decode cX6_choose 98 = .ok (.iload_n 3, 1) := by decide +kernel
theorem dX6_choose_99 : decode cX6_choose 99 = .ok (.ior, 1) := by decide +kernel
theorem dX6_choose_100 : decode cX6_choose 100 = .ok (.iastore, 1) := by decide +kernel
theorem dX6_choose_101 : decode cX6_choose 101 = .ok (.aload_n 0, 1) := by decide +kernel
theorem dX6_choose_102 : decode cX6_choose 102 = .ok (.getfield 64, 3) := by decide +kernel
theorem dX6_choose_105 : decode cX6_choose 105 = .ok (.iload 4, 2) := by decide +kernel
theorem dX6_choose_107 : decode cX6_choose 107 = .ok (.aload_n 0, 1) := by decide +kernel
theorem dX6_choose_108 : decode cX6_choose 108 = .ok (.getfield 64, 3) := by decide +kernel
theorem dX6_choose_111 : decode cX6_choose 111 = .ok (.iload 4, 2) := by decide +kernel
theorem dX6_choose_113 : decode cX6_choose 113 = .ok (.iaload, 1) := by decide +kernel
theorem dX6_choose_114 : decode cX6_choose 114 = .ok (.iload_n 2, 1) := by decide +kernel
theorem dX6_choose_115 : decode cX6_choose 115 = .ok (.ior, 1) := by decide +kernel
theorem dX6_choose_116 : decode cX6_choose 116 = .ok (.iastore, 1) := by decide +kernel
theorem dX6_choose_117 : decode cX6_choose 117 = .ok (.return_, 1) := by decide +kernel
theorem dX6_choose_118 : decode cX6_choose 118 = .ok (.iinc 4 1, 3) := by decide +kernel
theorem dX6_choose_121 : decode cX6_choose 121 = .ok (.goto (-67), 3) := by decide +kernel
theorem dX6_choose_124 : decode cX6_choose 124 = .ok (.aload_n 0, 1) := by decide +kernel
theorem dX6_choose_125 : decode cX6_choose 125 = .ok (.getfield 61, 3) := by decide +kernel
theorem dX6_choose_128 : decode cX6_choose 128 = .ok (.aload_n 0, 1) := by decide +kernel
theorem dX6_choose_129 : decode cX6_choose 129 = .ok (.getfield 202, 3) := by decide +kernel
theorem dX6_choose_132 : decode cX6_choose 132 = .ok (.iload_n 3, 1) := by decide +kernel
theorem dX6_choose_133 : decode cX6_choose 133 = .ok (.iastore, 1) := by decide +kernel
theorem dX6_choose_134 : decode cX6_choose 134 = .ok (.aload_n 0, 1) := by decide +kernel
theorem dX6_choose_135 : decode cX6_choose 135 = .ok (.getfield 64, 3) := by decide +kernel
theorem dX6_choose_138 : decode cX6_choose 138 = .ok (.aload_n 0, 1) := by decide +kernel
theorem dX6_choose_139 : decode cX6_choose 139 = .ok (.getfield 202, 3) := by decide +kernel
theorem dX6_choose_142 : decode cX6_choose 142 = .ok (.iload_n 2, 1) := by decide +kernel
theorem dX6_choose_143 : decode cX6_choose 143 = .ok (.iastore, 1) := by decide +kernel
theorem dX6_choose_144 : decode cX6_choose 144 = .ok (.aload_n 0, 1) := by decide +kernel
theorem dX6_choose_145 : decode cX6_choose 145 = .ok (.dup, 1) := by decide +kernel
theorem dX6_choose_146 : decode cX6_choose 146 = .ok (.getfield 202, 3) := by decide +kernel
theorem dX6_choose_149 : decode cX6_choose 149 = .ok (.iconst 1, 1) := by decide +kernel
theorem dX6_choose_150 : decode cX6_choose 150 = .ok (.iadd, 1) := by decide +kernel
theorem dX6_choose_151 : decode cX6_choose 151 = .ok (.putfield 202, 3) := by decide +kernel
theorem dX6_choose_154 : decode cX6_choose 154 = .ok (.return_, 1) := by decide +kernel
theorem dX6_know_0 : decode cX6_know 0 = .ok (.aload_n 0, 1) := by decide +kernel
theorem dX6_know_1 : decode cX6_know 1 = .ok (.getfield 179, 3) := by decide +kernel
theorem dX6_know_4 : decode cX6_know 4 = .ok (.ifCond .eq 4, 3) := by decide +kernel
theorem dX6_know_7 : decode cX6_know 7 = .ok (.return_, 1) := by decide +kernel
theorem dX6_know_8 : decode cX6_know 8 = .ok (.aload_n 0, 1) := by decide +kernel
theorem dX6_know_9 : decode cX6_know 9 = .ok (.iconst 1, 1) := by decide +kernel
theorem dX6_know_10 : decode cX6_know 10 = .ok (.putfield 179, 3) := by decide +kernel
theorem dX6_know_13 : decode cX6_know 13 = .ok (.iconst 0, 1) := by decide +kernel
theorem dX6_know_14 : decode cX6_know 14 = .ok (.istore_n 1, 1) := by decide +kernel
theorem dX6_know_15 : decode cX6_know 15 = .ok (.iload_n 1, 1) := by decide +kernel
theorem dX6_know_16 : decode cX6_know 16 = .ok (.aload_n 0, 1) := by decide +kernel
theorem dX6_know_17 : decode cX6_know 17 = .ok (.invokevirtual 192, 3) := by decide +kernel
theorem dX6_know_20 : decode cX6_know 20 = .ok (.if_icmp .ge 21, 3) := by decide +kernel
theorem dX6_know_23 : decode cX6_know 23 = .ok (.aload_n 0, 1) := by decide +kernel
theorem dX6_know_24 : decode cX6_know 24 = .ok (.getfield 55, 3) := by decide +kernel
theorem dX6_know_27 : decode cX6_know 27 = .ok (.iload_n 1, 1) := by decide +kernel
theorem dX6_know_28 : decode cX6_know 28 = .ok (.aload_n 0, 1) := by decide +kernel
theorem dX6_know_29 : decode cX6_know 29 = .ok (.iload_n 1, 1) := by decide +kernel
theorem dX6_know_30 : decode cX6_know 30 = .ok (.iconst (-1), 1) := by decide +kernel
theorem dX6_know_31 : decode cX6_know 31 = .ok (.invokevirtual 208, 3) := by decide +kernel
theorem dX6_know_34 : decode cX6_know 34 = .ok (.iastore, 1) := by decide +kernel
theorem dX6_know_35 : decode cX6_know 35 = .ok (.iinc 1 1, 3) := by decide +kernel
theorem dX6_know_38 : decode cX6_know 38 = .ok (.goto (-23), 3) := by decide +kernel
theorem dX6_know_41 : decode cX6_know 41 = .ok (.aload_n 0, 1) := by decide +kernel
theorem dX6_know_42 : decode cX6_know 42 = .ok (.iconst 0, 1) := by decide +kernel
theorem dX6_know_43 : decode cX6_know 43 = .ok (.putfield 212, 3) := by decide +kernel
theorem dX6_know_46 : decode cX6_know 46 = .ok (.iconst 0, 1) := by decide +kernel
theorem dX6_know_47 : decode cX6_know 47 = .ok (.istore_n 1, 1) := by decide +kernel
theorem dX6_know_48 : decode cX6_know 48 = .ok (.iload_n 1, 1) := by decide +kernel
theorem dX6_know_49 : decode cX6_know 49 = .ok (.iconst 2, 1) := by decide +kernel
theorem dX6_know_50 : decode cX6_know 50 = .ok (.aload_n 0, 1) := by decide +kernel
theorem dX6_know_51 : decode cX6_know 51 = .ok (.getfield 167, 3) := by decide +kernel
theorem dX6_know_54 : decode cX6_know 54 = .ok (.imul, 1) := by decide +kernel
theorem dX6_know_55 : decode cX6_know 55 = .ok (.if_icmp .ge 82, 3) := by decide +kernel
theorem dX6_know_58 : decode cX6_know 58 = .ok (.iconst 0, 1) := by decide +kernel
theorem dX6_know_59 : decode cX6_know 59 = .ok (.istore_n 2, 1) := by decide +kernel
theorem dX6_know_60 : decode cX6_know 60 = .ok (.iload_n 2, 1) := by decide +kernel
theorem dX6_know_61 : decode cX6_know 61 = .ok (.aload_n 0, 1) := by decide +kernel
theorem dX6_know_62 : decode cX6_know 62 = .ok (.invokevirtual 192, 3) := by decide +kernel
theorem dX6_know_65 : decode cX6_know 65 = .ok (.if_icmp .ge 41, 3) := by decide +kernel
theorem dX6_know_68 : decode cX6_know 68 = .ok (.aload_n 0, 1) := by decide +kernel
theorem dX6_know_69 : decode cX6_know 69 = .ok (.getfield 51, 3) := by decide +kernel
theorem dX6_know_72 : decode cX6_know 72 = .ok (.sipush 1024, 3) := by decide +kernel
theorem dX6_know_75 : decode cX6_know 75 = .ok (.iload_n 1, 1) := by decide +kernel
theorem dX6_know_76 : decode cX6_know 76 = .ok (.imul, 1) := by decide +kernel
theorem dX6_know_77 : decode cX6_know 77 = .ok (.iload_n 2, 1) := by decide +kernel
theorem dX6_know_78 : decode cX6_know 78 = .ok (.iadd, 1) := by decide +kernel
theorem dX6_know_79 : decode cX6_know 79 = .ok (.aload_n 0, 1) := by decide +kernel
theorem dX6_know_80 : decode cX6_know 80 = .ok (.iload_n 2, 1) := by decide +kernel
theorem dX6_know_81 : decode cX6_know 81 = .ok (.iload_n 1, 1) := by decide +kernel
theorem dX6_know_82 : decode cX6_know 82 = .ok (.invokevirtual 208, 3) := by decide +kernel
theorem dX6_know_85 : decode cX6_know 85 = .ok (.aload_n 0, 1) := by decide +kernel
theorem dX6_know_86 : decode cX6_know 86 = .ok (.getfield 55, 3) := by decide +kernel
theorem dX6_know_89 : decode cX6_know 89 = .ok (.iload_n 2, 1) := by decide +kernel
theorem dX6_know_90 : decode cX6_know 90 = .ok (.iaload, 1) := by decide +kernel
theorem dX6_know_91 : decode cX6_know 91 = .ok (.if_icmp .eq 7, 3) := by decide +kernel
theorem dX6_know_94 : decode cX6_know 94 = .ok (.iconst 1, 1) := by decide +kernel
theorem dX6_know_95 : decode cX6_know 95 = .ok (.goto 4, 3) := by decide +kernel
theorem dX6_know_98 : decode cX6_know 98 = .ok (.iconst 0, 1) := by decide +kernel
theorem dX6_know_99 : decode cX6_know 99 = .ok (.bastore, 1) := by decide +kernel
theorem dX6_know_100 : decode cX6_know 100 = .ok (.iinc 2 1, 3) := by decide +kernel
theorem dX6_know_103 : decode cX6_know 103 = .ok (.goto (-43), 3) := by decide +kernel
theorem dX6_know_106 : decode cX6_know 106 = .ok (.aload_n 0, 1) := by decide +kernel
theorem dX6_know_107 : decode cX6_know 107 = .ok (.aload_n 0, 1) := by decide +kernel
theorem dX6_know_108 : decode cX6_know 108 = .ok (.iload_n 1, 1) := by decide +kernel
theorem dX6_know_109 : decode cX6_know 109 = .ok (.invokevirtual 195, 3) := by decide +kernel
theorem dX6_know_112 : decode cX6_know 112 = .ok (.ifCond .lt 12, 3) := by decide +kernel
theorem dX6_know_115 : decode cX6_know 115 = .ok (.aload_n 0, 1) := by decide +kernel
theorem dX6_know_116 : decode cX6_know 116 = .ok (.getfield 212, 3) := by decide +kernel
theorem dX6_know_119 : decode cX6_know 119 = .ok (.iconst 1, 1) := by decide +kernel
theorem dX6_know_120 : decode cX6_know 120 = .ok (.iadd, 1) := by decide +kernel
theorem dX6_know_121 : decode cX6_know 121 = .ok (.goto 7, 3) := by decide +kernel
theorem dX6_know_124 : decode cX6_know 124 = .ok (.aload_n 0, 1) := by decide +kernel
theorem dX6_know_125 : decode cX6_know 125 = .ok (.getfield 212, 3) := by decide +kernel
theorem dX6_know_128 : decode cX6_know 128 = .ok (.putfield 212, 3) := by decide +kernel
theorem dX6_know_131 : decode cX6_know 131 = .ok (.iinc 1 1, 3) := by decide +kernel
theorem dX6_know_134 : decode cX6_know 134 = .ok (.goto (-86), 3) := by decide +kernel
theorem dX6_know_137 : decode cX6_know 137 = .ok (.aload_n 0, 1) := by decide +kernel
theorem dX6_know_138 : decode cX6_know 138 = .ok (.iconst 0, 1) := by decide +kernel
theorem dX6_know_139 : decode cX6_know 139 = .ok (.putfield 202, 3) := by decide +kernel
theorem dX6_know_142 : decode cX6_know 142 = .ok (.iconst 0, 1) := by decide +kernel
theorem dX6_know_143 : decode cX6_know 143 = .ok (.istore_n 1, 1) := by decide +kernel
theorem dX6_know_144 : decode cX6_know 144 = .ok (.iload_n 1, 1) := by decide +kernel
theorem dX6_know_145 : decode cX6_know 145 = .ok (.iconst 2, 1) := by decide +kernel
theorem dX6_know_146 : decode cX6_know 146 = .ok (.aload_n 0, 1) := by decide +kernel
theorem dX6_know_147 : decode cX6_know 147 = .ok (.getfield 167, 3) := by decide +kernel
theorem dX6_know_150 : decode cX6_know 150 = .ok (.imul, 1) := by decide +kernel
theorem dX6_know_151 : decode cX6_know 151 = .ok (.if_icmp .ge 22, 3) := by decide +kernel
theorem dX6_know_154 : decode cX6_know 154 = .ok (.aload_n 0, 1) := by decide +kernel
theorem dX6_know_155 : decode cX6_know 155 = .ok (.iload_n 1, 1) := by decide +kernel
theorem dX6_know_156 : decode cX6_know 156 = .ok (.invokevirtual 195, 3) := by decide +kernel
theorem dX6_know_159 : decode cX6_know 159 = .ok (.ifCond .lt 8, 3) := by decide +kernel
theorem dX6_know_162 : decode cX6_know 162 = .ok (.aload_n 0, 1) := by decide +kernel
theorem dX6_know_163 : decode cX6_know 163 = .ok (.iload_n 1, 1) := by decide +kernel
theorem dX6_know_164 : decode cX6_know 164 = .ok (.invokevirtual 215, 3) := by decide +kernel
theorem dX6_know_167 : decode cX6_know 167 = .ok (.iinc 1 1, 3) := by decide +kernel
theorem dX6_know_170 : decode cX6_know 170 = .ok (.goto (-26), 3) := by decide +kernel
theorem dX6_know_173 : decode cX6_know 173 = .ok (.aload_n 0, 1) := by decide +kernel
theorem dX6_know_174 : decode cX6_know 174 = .ok (.invokevirtual 218, 3) := by decide +kernel
theorem dX6_know_177 : decode cX6_know 177 = .ok (.return_, 1) := by decide +kernel
theorem dX6_row_0 : decode cX6_row 0 = .ok (.aload_n 0, 1) := by decide +kernel
theorem dX6_row_1 : decode cX6_row 1 = .ok (.getfield 67, 3) := by decide +kernel
theorem dX6_row_4 : decode cX6_row 4 = .ok (.iconst 5, 1) := by decide +kernel
theorem dX6_row_5 : decode cX6_row 5 = .ok (.aload_n 0, 1) := by decide +kernel
theorem dX6_row_6 : decode cX6_row 6 = .ok (.getfield 221, 3) := by decide +kernel
theorem dX6_row_9 : decode cX6_row 9 = .ok (.imul, 1) := by decide +kernel
theorem dX6_row_10 : decode cX6_row 10 = .ok (.iload_n 1, 1) := by decide +kernel
theorem dX6_row_11 : decode cX6_row 11 = .ok (.iastore, 1) := by decide +kernel
theorem dX6_row_12 : decode cX6_row 12 = .ok (.aload_n 0, 1) := by decide +kernel
theorem dX6_row_13 : decode cX6_row 13 = .ok (.getfield 67, 3) := by decide +kernel
theorem dX6_row_16 : decode cX6_row 16 = .ok (.iconst 5, 1) := by decide +kernel
theorem dX6_row_17 : decode cX6_row 17 = .ok (.aload_n 0, 1) := by decide +kernel
theorem dX6_row_18 : decode cX6_row 18 = .ok (.getfield 221, 3) := by decide +kernel
theorem dX6_row_21 : decode cX6_row 21 = .ok (.imul, 1) := by decide +kernel
theorem dX6_row_22 : decode cX6_row 22 = .ok (.iconst 1, 1) := by decide +kernel
theorem dX6_row_23 : decode cX6_row 23 = .ok (.iadd, 1) := by decide +kernel
theorem dX6_row_24 : decode cX6_row 24 = .ok (.iload_n 2, 1) := by decide +kernel
theorem dX6_row_25 : decode cX6_row 25 = .ok (.iastore, 1) := by decide +kernel
theorem dX6_row_26 : decode cX6_row 26 = .ok (.aload_n 0, 1) := by decide +kernel
theorem dX6_row_27 : decode cX6_row 27 = .ok (.getfield 67, 3) := by decide +kernel
theorem dX6_row_30 : decode cX6_row 30 = .ok (.iconst 5, 1) := by decide +kernel
theorem dX6_row_31 : decode cX6_row 31 = .ok (.aload_n 0, 1) := by decide +kernel
theorem dX6_row_32 : decode cX6_row 32 = .ok (.getfield 221, 3) := by decide +kernel
theorem dX6_row_35 : decode cX6_row 35 = .ok (.imul, 1) := by decide +kernel
theorem dX6_row_36 : decode cX6_row 36 = .ok (.iconst 2, 1) := by decide +kernel
theorem dX6_row_37 : decode cX6_row 37 = .ok (.iadd, 1) := by decide +kernel
theorem dX6_row_38 : decode cX6_row 38 = .ok (.iload_n 3, 1) := by decide +kernel
theorem dX6_row_39 : decode cX6_row 39 = .ok (.iastore, 1) := by decide +kernel
theorem dX6_row_40 : decode cX6_row 40 = .ok (.aload_n 0, 1) := by decide +kernel
theorem dX6_row_41 : decode cX6_row 41 = .ok (.getfield 67, 3) := by decide +kernel
theorem dX6_row_44 : decode cX6_row 44 = .ok (.iconst 5, 1) := by decide +kernel
theorem dX6_row_45 : decode cX6_row 45 = .ok (.aload_n 0, 1) := by decide +kernel
theorem dX6_row_46 : decode cX6_row 46 = .ok (.getfield 221, 3) := by decide +kernel
theorem dX6_row_49 : decode cX6_row 49 = .ok (.imul, 1) := by decide +kernel
theorem dX6_row_50 : decode cX6_row 50 = .ok (.iconst 3, 1) := by decide +kernel
theorem dX6_row_51 : decode cX6_row 51 = .ok (.iadd, 1) := by decide +kernel
theorem dX6_row_52 : decode cX6_row 52 = .ok (.iload 4, 2) := by decide +kernel
theorem dX6_row_54 : decode cX6_row 54 = .ok (.iastore, 1) := by decide +kernel
theorem dX6_row_55 : decode cX6_row 55 = .ok (.aload_n 0, 1) := by decide +kernel
theorem dX6_row_56 : decode cX6_row 56 = .ok (.getfield 67, 3) := by decide +kernel
theorem dX6_row_59 : decode cX6_row 59 = .ok (.iconst 5, 1) := by decide +kernel
theorem dX6_row_60 : decode cX6_row 60 = .ok (.aload_n 0, 1) := by decide +kernel
theorem dX6_row_61 : decode cX6_row 61 = .ok (.getfield 221, 3) := by decide +kernel
theorem dX6_row_64 : decode cX6_row 64 = .ok (.imul, 1) := by decide +kernel
theorem dX6_row_65 : decode cX6_row 65 = .ok (.iconst 4, 1) := by decide +kernel
theorem dX6_row_66 : decode cX6_row 66 = .ok (.iadd, 1) := by decide +kernel
theorem dX6_row_67 : decode cX6_row 67 = .ok (.iload 5, 2) := by decide +kernel
theorem dX6_row_69 : decode cX6_row 69 = .ok (.iastore, 1) := by decide +kernel
theorem dX6_row_70 : decode cX6_row 70 = .ok (.aload_n 0, 1) := by decide +kernel
theorem dX6_row_71 : decode cX6_row 71 = .ok (.dup, 1) := by decide +kernel
theorem dX6_row_72 : decode cX6_row 72 = .ok (.getfield 221, 3) := by decide +kernel
theorem dX6_row_75 : decode cX6_row 75 = .ok (.iconst 1, 1) := by decide +kernel
theorem dX6_row_76 : decode cX6_row 76 = .ok (.iadd, 1) := by decide +kernel
theorem dX6_row_77 : decode cX6_row 77 = .ok (.putfield 221, 3) := by decide +kernel
theorem dX6_row_80 : decode cX6_row 80 = .ok (.return_, 1) := by decide +kernel
theorem dX6_step_0 : decode cX6_step 0 = .ok (.aload_n 0, 1) := by decide +kernel
theorem dX6_step_1 : decode cX6_step 1 = .ok (.iload_n 1, 1) := by decide +kernel
theorem dX6_step_2 : decode cX6_step 2 = .ok (.iconst 0, 1) := by decide +kernel
theorem dX6_step_3 : decode cX6_step 3 = .ok (.iconst 0, 1) := by decide +kernel
theorem dX6_step_4 : decode cX6_step 4 = .ok (.iconst 2, 1) := by decide +kernel
theorem dX6_step_5 : decode cX6_step 5 = .ok (.iconst (-1), 1) := by decide +kernel
theorem dX6_step_6 : decode cX6_step 6 = .ok (.invokevirtual 224, 3) := by decide +kernel
theorem dX6_step_9 : decode cX6_step 9 = .ok (.return_, 1) := by decide +kernel
theorem dX6_write_0 : decode cX6_write 0 = .ok (.aload_n 0, 1) := by decide +kernel
theorem dX6_write_1 : decode cX6_write 1 = .ok (.iconst 0, 1) := by decide +kernel
theorem dX6_write_2 : decode cX6_write 2 = .ok (.putfield 221, 3) := by decide +kernel
theorem dX6_write_5 : decode cX6_write 5 = .ok (.iconst 0, 1) := by decide +kernel
theorem dX6_write_6 : decode cX6_write 6 = .ok (.istore_n 1, 1) := by decide +kernel
theorem dX6_write_7 : decode cX6_write 7 = .ok (.iload_n 1, 1) := by decide +kernel
theorem dX6_write_8 : decode cX6_write 8 = .ok (.iconst 5, 1) := by decide +kernel
theorem dX6_write_9 : decode cX6_write 9 = .ok (.if_icmp .ge 14, 3) := by decide +kernel
theorem dX6_write_12 : decode cX6_write 12 = .ok (.aload_n 0, 1) := by decide +kernel
theorem dX6_write_13 : decode cX6_write 13 = .ok (.iconst 1, 1) := by decide +kernel
theorem dX6_write_14 : decode cX6_write 14 = .ok (.invokevirtual 228, 3) := by decide +kernel
theorem dX6_write_17 : decode cX6_write 17 = .ok (.iinc 1 1, 3) := by decide +kernel
theorem dX6_write_20 : decode cX6_write 20 = .ok (.goto (-13), 3) := by decide +kernel
theorem dX6_write_23 : decode cX6_write 23 = .ok (.aload_n 0, 1) := by decide +kernel
theorem dX6_write_24 : decode cX6_write 24 = .ok (.iconst 0, 1) := by decide +kernel
theorem dX6_write_25 : decode cX6_write 25 = .ok (.invokevirtual 228, 3) := by decide +kernel
theorem dX6_write_28 : decode cX6_write 28 = .ok (.aload_n 0, 1) := by decide +kernel
theorem dX6_write_29 : decode cX6_write 29 = .ok (.iconst 1, 1) := by decide +kernel
theorem dX6_write_30 : decode cX6_write 30 = .ok (.invokevirtual 228, 3) := by decide +kernel
theorem dX6_write_33 : decode cX6_write 33 = .ok (.aload_n 0, 1) := by decide +kernel
theorem dX6_write_34 : decode cX6_write 34 = .ok (.iconst 1, 1) := by decide +kernel
theorem dX6_write_35 : decode cX6_write 35 = .ok (.invokevirtual 228, 3) := by decide +kernel
theorem dX6_write_38 : decode cX6_write 38 = .ok (.aload_n 0, 1) := by decide +kernel
theorem dX6_write_39 : decode cX6_write 39 = .ok (.iconst 0, 1) := by decide +kernel
theorem dX6_write_40 : decode cX6_write 40 = .ok (.invokevirtual 228, 3) := by decide +kernel
theorem dX6_write_43 : decode cX6_write 43 = .ok (.aload_n 0, 1) := by decide +kernel
theorem dX6_write_44 : decode cX6_write 44 = .ok (.iconst 0, 1) := by decide +kernel
theorem dX6_write_45 : decode cX6_write 45 = .ok (.invokevirtual 228, 3) := by decide +kernel
theorem dX6_write_48 : decode cX6_write 48 = .ok (.aload_n 0, 1) := by decide +kernel
theorem dX6_write_49 : decode cX6_write 49 = .ok (.iconst 0, 1) := by decide +kernel
theorem dX6_write_50 : decode cX6_write 50 = .ok (.iconst 1, 1) := by decide +kernel
theorem dX6_write_51 : decode cX6_write 51 = .ok (.iconst 0, 1) := by decide +kernel
theorem dX6_write_52 : decode cX6_write 52 = .ok (.iconst 2, 1) := by decide +kernel
theorem dX6_write_53 : decode cX6_write 53 = .ok (.iconst (-1), 1) := by decide +kernel
theorem dX6_write_54 : decode cX6_write 54 = .ok (.invokevirtual 224, 3) := by decide +kernel
theorem dX6_write_57 : decode cX6_write 57 = .ok (.aload_n 0, 1) := by decide +kernel
theorem dX6_write_58 : decode cX6_write 58 = .ok (.iconst 1, 1) := by decide +kernel
theorem dX6_write_59 : decode cX6_write 59 = .ok (.invokevirtual 228, 3) := by decide +kernel
theorem dX6_write_62 : decode cX6_write 62 = .ok (.aload_n 0, 1) := by decide +kernel
theorem dX6_write_63 : decode cX6_write 63 = .ok (.iconst 1, 1) := by decide +kernel
theorem dX6_write_64 : decode cX6_write 64 = .ok (.invokevirtual 228, 3) := by decide +kernel
theorem dX6_write_67 : decode cX6_write 67 = .ok (.aload_n 0, 1) := by decide +kernel
theorem dX6_write_68 : decode cX6_write 68 = .ok (.iconst 1, 1) := by decide +kernel
theorem dX6_write_69 : decode cX6_write 69 = .ok (.invokevirtual 228, 3) := by decide +kernel
theorem dX6_write_72 : decode cX6_write 72 = .ok (.iconst 0, 1) := by decide +kernel
theorem dX6_write_73 : decode cX6_write 73 = .ok (.istore_n 1, 1) := by decide +kernel
theorem dX6_write_74 : decode cX6_write 74 = .ok (.iload_n 1, 1) := by decide +kernel
theorem dX6_write_75 : decode cX6_write 75 = .ok (.aload_n 0, 1) := by decide +kernel
theorem dX6_write_76 : decode cX6_write 76 = .ok (.getfield 202, 3) := by decide +kernel
theorem dX6_write_79 : decode cX6_write 79 = .ok (.if_icmp .gt 180, 3) := by decide +kernel
theorem dX6_write_82 : decode cX6_write 82 = .ok (.aload_n 0, 1) := by decide +kernel
theorem dX6_write_83 : decode cX6_write 83 = .ok (.iconst 0, 1) := by decide +kernel
theorem dX6_write_84 : decode cX6_write 84 = .ok (.invokevirtual 228, 3) := by decide +kernel
theorem dX6_write_87 : decode cX6_write 87 = .ok (.iload_n 1, 1) := by decide +kernel
theorem dX6_write_88 : decode cX6_write 88 = .ok (.ifCond .le 14, 3) := by decide +kernel
theorem dX6_write_91 : decode cX6_write 91 = .ok (.aload_n 0, 1) := by decide +kernel
theorem dX6_write_92 : decode cX6_write 92 = .ok (.getfield 61, 3) := by decide +kernel
theorem dX6_write_95 : decode cX6_write 95 = .ok (.iload_n 1, 1) := by decide +kernel
theorem dX6_write_96 : decode cX6_write 96 = .ok (.iconst 1, 1) := by decide +kernel
theorem dX6_write_97 : decode cX6_write 97 = .ok (.isub, 1) := by decide +kernel
theorem dX6_write_98 : decode cX6_write 98 = .ok (.iaload, 1) := by decide +kernel
theorem dX6_write_99 : decode cX6_write 99 = .ok (.goto 4, 3) := by decide +kernel
theorem dX6_write_102 : decode cX6_write 102 = .ok (.iconst 0, 1) := by decide +kernel
theorem dX6_write_103 : decode cX6_write 103 = .ok (.istore_n 2, 1) := by decide +kernel
theorem dX6_write_104 : decode cX6_write 104 = .ok (.aload_n 0, 1) := by decide +kernel
theorem dX6_write_105 : decode cX6_write 105 = .ok (.getfield 55, 3) := by decide +kernel
theorem dX6_write_108 : decode cX6_write 108 = .ok (.iload_n 2, 1) := by decide +kernel
theorem dX6_write_109 : decode cX6_write 109 = .ok (.iaload, 1) := by decide +kernel
theorem dX6_write_110 : decode cX6_write 110 = .ok (.istore_n 3, 1) := by decide +kernel
theorem dX6_write_111 : decode cX6_write 111 = .ok (.aload_n 0, 1) := by decide +kernel
theorem dX6_write_112 : decode cX6_write 112 = .ok (.aload_n 0, 1) := by decide +kernel
theorem dX6_write_113 : decode cX6_write 113 = .ok (.getfield 173, 3) := by decide +kernel
theorem dX6_write_116 : decode cX6_write 116 = .ok (.ifCond .ne 7, 3) := by decide +kernel
theorem dX6_write_119 : decode cX6_write 119 = .ok (.iconst 1, 1) := by decide +kernel
theorem dX6_write_120 : decode cX6_write 120 = .ok (.goto 4, 3) := by decide +kernel
theorem dX6_write_123 : decode cX6_write 123 = .ok (.iconst 0, 1) := by decide +kernel
theorem dX6_write_124 : decode cX6_write 124 = .ok (.iconst 0, 1) := by decide +kernel
theorem dX6_write_125 : decode cX6_write 125 = .ok (.iload_n 2, 1) := by decide +kernel
theorem dX6_write_126 : decode cX6_write 126 = .ok (.iconst 1, 1) := by decide +kernel
theorem dX6_write_127 : decode cX6_write 127 = .ok (.aload_n 0, 1) := by decide +kernel
theorem dX6_write_128 : decode cX6_write 128 = .ok (.getfield 170, 3) := by decide +kernel
theorem dX6_write_131 : decode cX6_write 131 = .ok (.ishl, 1) := by decide +kernel
theorem dX6_write_132 : decode cX6_write 132 = .ok (.iconst 1, 1) := by decide +kernel
theorem dX6_write_133 : decode cX6_write 133 = .ok (.isub, 1) := by decide +kernel
theorem dX6_write_134 : decode cX6_write 134 = .ok (.iand, 1) := by decide +kernel
theorem dX6_write_135 : decode cX6_write 135 = .ok (.iconst 2, 1) := by decide +kernel
theorem dX6_write_136 : decode cX6_write 136 = .ok (.iload_n 1, 1) := by decide +kernel
theorem dX6_write_137 : decode cX6_write 137 = .ok (.ifCond .le 16, 3) := by decide +kernel
theorem dX6_write_140 : decode cX6_write 140 = .ok (.iload_n 3, 1) := by decide +kernel
theorem dX6_write_141 : decode cX6_write 141 = .ok (.iconst 1, 1) := by decide +kernel
theorem dX6_write_142 : decode cX6_write 142 = .ok (.aload_n 0, 1) := by decide +kernel
theorem dX6_write_143 : decode cX6_write 143 = .ok (.getfield 176, 3) := by decide +kernel
theorem dX6_write_146 : decode cX6_write 146 = .ok (.ishl, 1) := by decide +kernel
theorem dX6_write_147 : decode cX6_write 147 = .ok (.iconst 1, 1) := by decide +kernel
theorem dX6_write_148 : decode cX6_write 148 = .ok (.isub, 1) := by decide +kernel
theorem dX6_write_149 : decode cX6_write 149 = .ok (.iand, 1) := by decide +kernel
theorem dX6_write_150 : decode cX6_write 150 = .ok (.goto 4, 3) := by decide +kernel
theorem dX6_write_153 : decode cX6_write 153 = .ok (.iconst (-1), 1) := by decide +kernel
theorem dX6_write_154 : decode cX6_write 154 = .ok (.invokevirtual 224, 3) := by decide +kernel
theorem dX6_write_157 : decode cX6_write 157 = .ok (.iload_n 1, 1) := by decide +kernel
theorem dX6_write_158 : decode cX6_write 158 = .ok (.aload_n 0, 1) := by decide +kernel
theorem dX6_write_159 : decode cX6_write 159 = .ok (.getfield 202, 3) := by decide +kernel
theorem dX6_write_162 : decode cX6_write 162 = .ok (.if_icmp .ge 17, 3) := by decide +kernel
theorem dX6_write_165 : decode cX6_write 165 = .ok (.aload_n 0, 1) := by decide +kernel
theorem dX6_write_166 : decode cX6_write 166 = .ok (.getfield 61, 3) := by decide +kernel
theorem dX6_write_169 : decode cX6_write 169 = .ok (.iload_n 1, 1) := by decide +kernel
theorem dX6_write_170 : decode cX6_write 170 = .ok (.iaload, 1) := by decide +kernel
theorem dX6_write_171 : decode cX6_write 171 = .ok (.aload_n 0, 1) := by decide +kernel
theorem dX6_write_172 : decode cX6_write 172 = .ok (.getfield 170, 3) := by decide +kernel
theorem dX6_write_175 : decode cX6_write 175 = .ok (.ishr, 1) := by decide +kernel
theorem dX6_write_176 : decode cX6_write 176 = .ok (.goto 4, 3) := by decide +kernel
theorem dX6_write_179 : decode cX6_write 179 = .ok (.iconst 0, 1) := by decide +kernel
theorem dX6_write_180 : decode cX6_write 180 = .ok (.istore 4, 2) := by decide +kernel
theorem dX6_write_182 : decode cX6_write 182 = .ok (.aload_n 0, 1) := by decide +kernel
theorem dX6_write_183 : decode cX6_write 183 = .ok (.getfield 173, 3) := by decide +kernel
theorem dX6_write_186 : decode cX6_write 186 = .ok (.iconst 1, 1) := by decide +kernel
theorem dX6_write_187 : decode cX6_write 187 = .ok (.isub, 1) := by decide +kernel
theorem dX6_write_188 : decode cX6_write 188 = .ok (.istore 5, 2) := by decide +kernel
theorem dX6_write_190 : decode cX6_write 190 = .ok (.iload 5, 2) := by decide +kernel
theorem dX6_write_192 : decode cX6_write 192 = .ok (.ifCond .lt 51, 3) := by decide +kernel
theorem dX6_write_195 : decode cX6_write 195 = .ok (.aload_n 0, 1) := by decide +kernel
theorem dX6_write_196 : decode cX6_write 196 = .ok (.iload 5, 2) := by decide +kernel
theorem dX6_write_198 : decode cX6_write 198 = .ok (.ifCond .ne 7, 3) := by decide +kernel
theorem dX6_write_201 : decode cX6_write 201 = .ok (.iconst 1, 1) := by decide +kernel
theorem dX6_write_202 : decode cX6_write 202 = .ok (.goto 4, 3) := by decide +kernel
theorem dX6_write_205 : decode cX6_write 205 = .ok (.iconst 0, 1) := by decide +kernel
theorem dX6_write_206 : decode cX6_write 206 = .ok (.iload 4, 2) := by decide +kernel
theorem dX6_write_208 : decode cX6_write 208 = .ok (.iload 5, 2) := by decide +kernel
theorem dX6_write_210 : decode cX6_write 210 = .ok (.ishr, 1) := by decide +kernel
theorem dX6_write_211 : decode cX6_write 211 = .ok (.iconst 1, 1) := by decide +kernel
theorem dX6_write_212 : decode cX6_write 212 = .ok (.iand, 1) := by decide +kernel
theorem dX6_write_213 : decode cX6_write 213 = .ok (.iconst 0, 1) := by decide +kernel
theorem dX6_write_214 : decode cX6_write 214 = .ok (.iload_n 1, 1) := by decide +kernel
theorem dX6_write_215 : decode cX6_write 215 = .ok (.ifCond .le 17, 3) := by decide +kernel
theorem dX6_write_218 : decode cX6_write 218 = .ok (.iload_n 3, 1) := by decide +kernel
theorem dX6_write_219 : decode cX6_write 219 = .ok (.aload_n 0, 1) := by decide +kernel
theorem dX6_write_220 : decode cX6_write 220 = .ok (.getfield 176, 3) := by decide +kernel
theorem dX6_write_223 : decode cX6_write 223 = .ok (.iload 5, 2) := by decide +kernel
theorem dX6_write_225 : decode cX6_write 225 = .ok (.iadd, 1) := by decide +kernel
theorem dX6_write_226 : decode cX6_write 226 = .ok (.ishr, 1) := by decide +kernel
theorem dX6_write_227 : decode cX6_write 227 = .ok (.iconst 1, 1) := by decide +kernel
theorem dX6_write_228 : decode cX6_write 228 = .ok (.iand, 1) := by decide +kernel
theorem dX6_write_229 : decode cX6_write 229 = .ok (.goto 4, 3) := by decide +kernel
theorem dX6_write_232 : decode cX6_write 232 = .ok (.iconst 2, 1) := by decide +kernel
theorem dX6_write_233 : decode cX6_write 233 = .ok (.iconst (-1), 1) := by decide +kernel
theorem dX6_write_234 : decode cX6_write 234 = .ok (.invokevirtual 224, 3) := by decide +kernel
theorem dX6_write_237 : decode cX6_write 237 = .ok (.iinc 5 (-1), 3) := by decide +kernel
theorem dX6_write_240 : decode cX6_write 240 = .ok (.goto (-50), 3) := by decide +kernel
theorem dX6_write_243 : decode cX6_write 243 = .ok (.aload_n 0, 1) := by decide +kernel
theorem dX6_write_244 : decode cX6_write 244 = .ok (.iconst 1, 1) := by decide +kernel
theorem dX6_write_245 : decode cX6_write 245 = .ok (.invokevirtual 228, 3) := by decide +kernel
theorem dX6_write_248 : decode cX6_write 248 = .ok (.aload_n 0, 1) := by decide +kernel
theorem dX6_write_249 : decode cX6_write 249 = .ok (.iconst 1, 1) := by decide +kernel
theorem dX6_write_250 : decode cX6_write 250 = .ok (.invokevirtual 228, 3) := by decide +kernel
theorem dX6_write_253 : decode cX6_write 253 = .ok (.iinc 1 1, 3) := by decide +kernel
theorem dX6_write_256 : decode cX6_write 256 = .ok (.goto (-182), 3) := by decide +kernel
theorem dX6_write_259 : decode cX6_write 259 = .ok (.return_, 1) := by decide +kernel
theorem dX6_told_0 : decode cX6_told 0 = .ok (.aload_n 0, 1) := by decide +kernel
theorem dX6_told_1 : decode cX6_told 1 = .ok (.iload_n 1, 1) := by decide +kernel
theorem dX6_told_2 : decode cX6_told 2 = .ok (.ifCond .lt 8, 3) := by decide +kernel
theorem dX6_told_5 : decode cX6_told 5 = .ok (.iload_n 1, 1) := by decide +kernel
theorem dX6_told_6 : decode cX6_told 6 = .ok (.iconst 5, 1) := by decide +kernel
theorem dX6_told_7 : decode cX6_told 7 = .ok (.if_icmp .le 7, 3) := by decide +kernel
theorem dX6_told_10 : decode cX6_told 10 = .ok (.iconst 1, 1) := by decide +kernel
theorem dX6_told_11 : decode cX6_told 11 = .ok (.goto 4, 3) := by decide +kernel
theorem dX6_told_14 : decode cX6_told 14 = .ok (.iconst 0, 1) := by decide +kernel
theorem dX6_told_15 : decode cX6_told 15 = .ok (.putfield 76, 3) := by decide +kernel
theorem dX6_told_18 : decode cX6_told 18 = .ok (.aload_n 0, 1) := by decide +kernel
theorem dX6_told_19 : decode cX6_told 19 = .ok (.getfield 76, 3) := by decide +kernel
theorem dX6_told_22 : decode cX6_told 22 = .ok (.ifCond .le 5, 3) := by decide +kernel
theorem dX6_told_25 : decode cX6_told 25 = .ok (.iconst 0, 1) := by decide +kernel
theorem dX6_told_26 : decode cX6_told 26 = .ok (.ireturn, 1) := by decide +kernel
theorem dX6_told_27 : decode cX6_told 27 = .ok (.aload_n 0, 1) := by decide +kernel
theorem dX6_told_28 : decode cX6_told 28 = .ok (.invokevirtual 231, 3) := by decide +kernel
theorem dX6_told_31 : decode cX6_told 31 = .ok (.iload_n 1, 1) := by decide +kernel
theorem dX6_told_32 : decode cX6_told 32 = .ok (.ifCond .ne 10, 3) := by decide +kernel
theorem dX6_told_35 : decode cX6_told 35 = .ok (.aload_n 0, 1) := by decide +kernel
theorem dX6_told_36 : decode cX6_told 36 = .ok (.getfield 170, 3) := by decide +kernel
theorem dX6_told_39 : decode cX6_told 39 = .ok (.goto 55, 3) := by decide +kernel
theorem dX6_told_42 : decode cX6_told 42 = .ok (.iload_n 1, 1) := by decide +kernel
theorem dX6_told_43 : decode cX6_told 43 = .ok (.iconst 1, 1) := by decide +kernel
theorem dX6_told_44 : decode cX6_told 44 = .ok (.if_icmp .ne 10, 3) := by decide +kernel
theorem dX6_told_47 : decode cX6_told 47 = .ok (.aload_n 0, 1) := by decide +kernel
theorem dX6_told_48 : decode cX6_told 48 = .ok (.getfield 173, 3) := by decide +kernel
theorem dX6_told_51 : decode cX6_told 51 = .ok (.goto 43, 3) := by decide +kernel
theorem dX6_told_54 : decode cX6_told 54 = .ok (.iload_n 1, 1) := by decide +kernel
theorem dX6_told_55 : decode cX6_told 55 = .ok (.iconst 2, 1) := by decide +kernel
theorem dX6_told_56 : decode cX6_told 56 = .ok (.if_icmp .ne 10, 3) := by decide +kernel
theorem dX6_told_59 : decode cX6_told 59 = .ok (.aload_n 0, 1) := by decide +kernel
theorem dX6_told_60 : decode cX6_told 60 = .ok (.getfield 176, 3) := by decide +kernel
theorem dX6_told_63 : decode cX6_told 63 = .ok (.goto 31, 3) := by decide +kernel
theorem dX6_told_66 : decode cX6_told 66 = .ok (.iload_n 1, 1) := by decide +kernel
theorem dX6_told_67 : decode cX6_told 67 = .ok (.iconst 3, 1) := by decide +kernel
theorem dX6_told_68 : decode cX6_told 68 = .ok (.if_icmp .ne 10, 3) := by decide +kernel
theorem dX6_told_71 : decode cX6_told 71 = .ok (.aload_n 0, 1) := by decide +kernel
theorem dX6_told_72 : decode cX6_told 72 = .ok (.getfield 212, 3) := by decide +kernel
theorem dX6_told_75 : decode cX6_told 75 = .ok (.goto 19, 3) := by decide +kernel
theorem dX6_told_78 : decode cX6_told 78 = .ok (.iload_n 1, 1) := by decide +kernel
theorem dX6_told_79 : decode cX6_told 79 = .ok (.iconst 4, 1) := by decide +kernel
theorem dX6_told_80 : decode cX6_told 80 = .ok (.if_icmp .ne 10, 3) := by decide +kernel
theorem dX6_told_83 : decode cX6_told 83 = .ok (.aload_n 0, 1) := by decide +kernel
theorem dX6_told_84 : decode cX6_told 84 = .ok (.getfield 202, 3) := by decide +kernel
theorem dX6_told_87 : decode cX6_told 87 = .ok (.goto 7, 3) := by decide +kernel
theorem dX6_told_90 : decode cX6_told 90 = .ok (.aload_n 0, 1) := by decide +kernel
theorem dX6_told_91 : decode cX6_told 91 = .ok (.getfield 221, 3) := by decide +kernel
theorem dX6_told_94 : decode cX6_told 94 = .ok (.ireturn, 1) := by decide +kernel
theorem dX6_noStuck_0 : decode cX6_noStuck 0 = .ok (.iload_n 1, 1) := by decide +kernel
theorem dX6_noStuck_1 : decode cX6_noStuck 1 = .ok (.iload_n 2, 1) := by decide +kernel
theorem dX6_noStuck_2 : decode cX6_noStuck 2 = .ok (.ifCond .eq 7, 3) := by decide +kernel
theorem dX6_noStuck_5 : decode cX6_noStuck 5 = .ok (.iconst (-1), 1) := by decide +kernel
theorem dX6_noStuck_6 : decode cX6_noStuck 6 = .ok (.goto 4, 3) := by decide +kernel
theorem dX6_noStuck_9 : decode cX6_noStuck 9 = .ok (.iconst 0, 1) := by decide +kernel
theorem dX6_noStuck_10 : decode cX6_noStuck 10 = .ok (.if_icmp .lt 13, 3) := by decide +kernel
theorem dX6_noStuck_13 : decode cX6_noStuck 13 = .ok (.iload_n 1, 1) := by decide +kernel
theorem dX6_noStuck_14 : decode cX6_noStuck 14 = .ok (.iconst 2, 1) := by decide +kernel
theorem dX6_noStuck_15 : decode cX6_noStuck 15 = .ok (.aload_n 0, 1) := by decide +kernel
theorem dX6_noStuck_16 : decode cX6_noStuck 16 = .ok (.getfield 167, 3) := by decide +kernel
theorem dX6_noStuck_19 : decode cX6_noStuck 19 = .ok (.imul, 1) := by decide +kernel
theorem dX6_noStuck_20 : decode cX6_noStuck 20 = .ok (.if_icmp .lt 7, 3) := by decide +kernel
theorem dX6_noStuck_23 : decode cX6_noStuck 23 = .ok (.iconst 1, 1) := by decide +kernel
theorem dX6_noStuck_24 : decode cX6_noStuck 24 = .ok (.goto 4, 3) := by decide +kernel
theorem dX6_noStuck_27 : decode cX6_noStuck 27 = .ok (.iconst 0, 1) := by decide +kernel
theorem dX6_noStuck_28 : decode cX6_noStuck 28 = .ok (.ireturn, 1) := by decide +kernel
theorem dX6_answer_0 : decode cX6_answer 0 = .ok (.aload_n 0, 1) := by decide +kernel
theorem dX6_answer_1 : decode cX6_answer 1 = .ok (.iload_n 1, 1) := by decide +kernel
theorem dX6_answer_2 : decode cX6_answer 2 = .ok (.ifCond .lt 11, 3) := by decide +kernel
theorem dX6_answer_5 : decode cX6_answer 5 = .ok (.iload_n 1, 1) := by decide +kernel
theorem dX6_answer_6 : decode cX6_answer 6 = .ok (.aload_n 0, 1) := by decide +kernel
theorem dX6_answer_7 : decode cX6_answer 7 = .ok (.invokevirtual 192, 3) := by decide +kernel
theorem dX6_answer_10 : decode cX6_answer 10 = .ok (.if_icmp .lt 7, 3) := by decide +kernel
theorem dX6_answer_13 : decode cX6_answer 13 = .ok (.iconst 1, 1) := by decide +kernel
theorem dX6_answer_14 : decode cX6_answer 14 = .ok (.goto 17, 3) := by decide +kernel
theorem dX6_answer_17 : decode cX6_answer 17 = .ok (.aload_n 0, 1) := by decide +kernel
theorem dX6_answer_18 : decode cX6_answer 18 = .ok (.iload_n 2, 1) := by decide +kernel
theorem dX6_answer_19 : decode cX6_answer 19 = .ok (.iconst 1, 1) := by decide +kernel
theorem dX6_answer_20 : decode cX6_answer 20 = .ok (.invokevirtual 234, 3) := by decide +kernel
theorem dX6_answer_23 : decode cX6_answer 23 = .ok (.ifCond .eq 7, 3) := by decide +kernel
theorem dX6_answer_26 : decode cX6_answer 26 = .ok (.iconst 2, 1) := by decide +kernel
theorem dX6_answer_27 : decode cX6_answer 27 = .ok (.goto 4, 3) := by decide +kernel
theorem dX6_answer_30 : decode cX6_answer 30 = .ok (.iconst 0, 1) := by decide +kernel
theorem dX6_answer_31 : decode cX6_answer 31 = .ok (.putfield 76, 3) := by decide +kernel
theorem dX6_answer_34 : decode cX6_answer 34 = .ok (.aload_n 0, 1) := by decide +kernel
theorem dX6_answer_35 : decode cX6_answer 35 = .ok (.getfield 76, 3) := by decide +kernel
theorem dX6_answer_38 : decode cX6_answer 38 = .ok (.ifCond .le 7, 3) := by decide +kernel
theorem dX6_answer_41 : decode cX6_answer 41 = .ok (.iconst 0, 1) := by decide +kernel
theorem dX6_answer_42 : decode cX6_answer 42 = .ok (.goto 9, 3) := by decide +kernel
theorem dX6_answer_45 : decode cX6_answer 45 = .ok (.aload_n 0, 1) := by decide +kernel
theorem dX6_answer_46 : decode cX6_answer 46 = .ok (.iload_n 1, 1) := by decide +kernel
theorem dX6_answer_47 : decode cX6_answer 47 = .ok (.iload_n 2, 1) := by decide +kernel
theorem dX6_answer_48 : decode cX6_answer 48 = .ok (.invokevirtual 208, 3) := by decide +kernel
theorem dX6_answer_51 : decode cX6_answer 51 = .ok (.ireturn, 1) := by decide +kernel
theorem dX6_shows_0 : decode cX6_shows 0 = .ok (.aload_n 0, 1) := by decide +kernel
theorem dX6_shows_1 : decode cX6_shows 1 = .ok (.aload_n 0, 1) := by decide +kernel
theorem dX6_shows_2 : decode cX6_shows 2 = .ok (.iload_n 1, 1) := by decide +kernel
theorem dX6_shows_3 : decode cX6_shows 3 = .ok (.iconst 0, 1) := by decide +kernel
theorem dX6_shows_4 : decode cX6_shows 4 = .ok (.invokevirtual 234, 3) := by decide +kernel
theorem dX6_shows_7 : decode cX6_shows 7 = .ok (.ifCond .eq 7, 3) := by decide +kernel
theorem dX6_shows_10 : decode cX6_shows 10 = .ok (.iconst 1, 1) := by decide +kernel
theorem dX6_shows_11 : decode cX6_shows 11 = .ok (.goto 17, 3) := by decide +kernel
theorem dX6_shows_14 : decode cX6_shows 14 = .ok (.iload_n 2, 1) := by decide +kernel
theorem dX6_shows_15 : decode cX6_shows 15 = .ok (.ifCond .lt 8, 3) := by decide +kernel
theorem dX6_shows_18 : decode cX6_shows 18 = .ok (.iload_n 2, 1) := by decide +kernel
theorem dX6_shows_19 : decode cX6_shows 19 = .ok (.iconst 3, 1) := by decide +kernel
theorem dX6_shows_20 : decode cX6_shows 20 = .ok (.if_icmp .le 7, 3) := by decide +kernel
theorem dX6_shows_23 : decode cX6_shows 23 = .ok (.iconst 2, 1) := by decide +kernel
theorem dX6_shows_24 : decode cX6_shows 24 = .ok (.goto 4, 3) := by decide +kernel
theorem dX6_shows_27 : decode cX6_shows 27 = .ok (.iconst 0, 1) := by decide +kernel
theorem dX6_shows_28 : decode cX6_shows 28 = .ok (.putfield 76, 3) := by decide +kernel
theorem dX6_shows_31 : decode cX6_shows 31 = .ok (.aload_n 0, 1) := by decide +kernel
theorem dX6_shows_32 : decode cX6_shows 32 = .ok (.getfield 76, 3) := by decide +kernel
theorem dX6_shows_35 : decode cX6_shows 35 = .ok (.ifCond .le 5, 3) := by decide +kernel
theorem dX6_shows_38 : decode cX6_shows 38 = .ok (.iconst 0, 1) := by decide +kernel
theorem dX6_shows_39 : decode cX6_shows 39 = .ok (.ireturn, 1) := by decide +kernel
theorem dX6_shows_40 : decode cX6_shows 40 = .ok (.aload_n 0, 1) := by decide +kernel
theorem dX6_shows_41 : decode cX6_shows 41 = .ok (.invokevirtual 231, 3) := by decide +kernel
theorem dX6_shows_44 : decode cX6_shows 44 = .ok (.iconst 0, 1) := by decide +kernel
theorem dX6_shows_45 : decode cX6_shows 45 = .ok (.istore_n 3, 1) := by decide +kernel
theorem dX6_shows_46 : decode cX6_shows 46 = .ok (.iconst 0, 1) := by decide +kernel
theorem dX6_shows_47 : decode cX6_shows 47 = .ok (.istore 4, 2) := by decide +kernel
theorem dX6_shows_49 : decode cX6_shows 49 = .ok (.iload 4, 2) := by decide +kernel
theorem dX6_shows_51 : decode cX6_shows 51 = .ok (.aload_n 0, 1) := by decide +kernel
theorem dX6_shows_52 : decode cX6_shows 52 = .ok (.invokevirtual 192, 3) := by decide +kernel
theorem dX6_shows_55 : decode cX6_shows 55 = .ok (.if_icmp .ge 33, 3) := by decide +kernel
theorem dX6_shows_58 : decode cX6_shows 58 = .ok (.aload_n 0, 1) := by decide +kernel
theorem dX6_shows_59 : decode cX6_shows 59 = .ok (.getfield 51, 3) := by decide +kernel
theorem dX6_shows_62 : decode cX6_shows 62 = .ok (.sipush 1024, 3) := by decide +kernel
theorem dX6_shows_65 : decode cX6_shows 65 = .ok (.iload_n 1, 1) := by decide +kernel
theorem dX6_shows_66 : decode cX6_shows 66 = .ok (.imul, 1) := by decide +kernel
theorem dX6_shows_67 : decode cX6_shows 67 = .ok (.iload 4, 2) := by decide +kernel
theorem dX6_shows_69 : decode cX6_shows 69 = .ok (.iadd, 1) := by decide +kernel
theorem dX6_shows_70 : decode cX6_shows 70 = .ok (.baload, 1) := by decide +kernel
theorem dX6_shows_71 : decode cX6_shows 71 = .ok (.ifCond .eq 9, 3) := by decide +kernel
theorem dX6_shows_74 : decode cX6_shows 74 = .ok (.iload_n 3, 1) := by decide +kernel
theorem dX6_shows_75 : decode cX6_shows 75 = .ok (.iconst 1, 1) := by decide +kernel
theorem dX6_shows_76 : decode cX6_shows 76 = .ok (.iadd, 1) := by decide +kernel
theorem dX6_shows_77 : decode cX6_shows 77 = .ok (.goto 4, 3) := by decide +kernel
theorem dX6_shows_80 : decode cX6_shows 80 = .ok (.iload_n 3, 1) := by decide +kernel
theorem dX6_shows_81 : decode cX6_shows 81 = .ok (.istore_n 3, 1) := by decide +kernel
theorem dX6_shows_82 : decode cX6_shows 82 = .ok (.iinc 4 1, 3) := by decide +kernel
theorem dX6_shows_85 : decode cX6_shows 85 = .ok (.goto (-36), 3) := by decide +kernel
theorem dX6_shows_88 : decode cX6_shows 88 = .ok (.iload_n 2, 1) := by decide +kernel
theorem dX6_shows_89 : decode cX6_shows 89 = .ok (.iconst 2, 1) := by decide +kernel
theorem dX6_shows_90 : decode cX6_shows 90 = .ok (.if_icmp .lt 7, 3) := by decide +kernel
theorem dX6_shows_93 : decode cX6_shows 93 = .ok (.iload_n 3, 1) := by decide +kernel
theorem dX6_shows_94 : decode cX6_shows 94 = .ok (.ifCond .ne 17, 3) := by decide +kernel
theorem dX6_shows_97 : decode cX6_shows 97 = .ok (.iload_n 2, 1) := by decide +kernel
theorem dX6_shows_98 : decode cX6_shows 98 = .ok (.ifCond .ne 7, 3) := by decide +kernel
theorem dX6_shows_101 : decode cX6_shows 101 = .ok (.iload_n 3, 1) := by decide +kernel
theorem dX6_shows_102 : decode cX6_shows 102 = .ok (.goto 8, 3) := by decide +kernel
theorem dX6_shows_105 : decode cX6_shows 105 = .ok (.aload_n 0, 1) := by decide +kernel
theorem dX6_shows_106 : decode cX6_shows 106 = .ok (.iload_n 1, 1) := by decide +kernel
theorem dX6_shows_107 : decode cX6_shows 107 = .ok (.invokevirtual 195, 3) := by decide +kernel
theorem dX6_shows_110 : decode cX6_shows 110 = .ok (.ireturn, 1) := by decide +kernel
theorem dX6_shows_111 : decode cX6_shows 111 = .ok (.aload_n 0, 1) := by decide +kernel
theorem dX6_shows_112 : decode cX6_shows 112 = .ok (.iload_n 1, 1) := by decide +kernel
theorem dX6_shows_113 : decode cX6_shows 113 = .ok (.invokevirtual 205, 3) := by decide +kernel
theorem dX6_shows_116 : decode cX6_shows 116 = .ok (.istore 4, 2) := by decide +kernel
theorem dX6_shows_118 : decode cX6_shows 118 = .ok (.iload_n 2, 1) := by decide +kernel
theorem dX6_shows_119 : decode cX6_shows 119 = .ok (.iconst 2, 1) := by decide +kernel
theorem dX6_shows_120 : decode cX6_shows 120 = .ok (.if_icmp .ne 14, 3) := by decide +kernel
theorem dX6_shows_123 : decode cX6_shows 123 = .ok (.aload_n 0, 1) := by decide +kernel
theorem dX6_shows_124 : decode cX6_shows 124 = .ok (.iload_n 1, 1) := by decide +kernel
theorem dX6_shows_125 : decode cX6_shows 125 = .ok (.invokevirtual 195, 3) := by decide +kernel
theorem dX6_shows_128 : decode cX6_shows 128 = .ok (.iload 4, 2) := by decide +kernel
theorem dX6_shows_130 : decode cX6_shows 130 = .ok (.iand, 1) := by decide +kernel
theorem dX6_shows_131 : decode cX6_shows 131 = .ok (.goto 14, 3) := by decide +kernel
theorem dX6_shows_134 : decode cX6_shows 134 = .ok (.aload_n 0, 1) := by decide +kernel
theorem dX6_shows_135 : decode cX6_shows 135 = .ok (.invokevirtual 192, 3) := by decide +kernel
theorem dX6_shows_138 : decode cX6_shows 138 = .ok (.iconst 1, 1) := by decide +kernel
theorem dX6_shows_139 : decode cX6_shows 139 = .ok (.isub, 1) := by decide +kernel
theorem dX6_shows_140 : decode cX6_shows 140 = .ok (.iload 4, 2) := by decide +kernel
