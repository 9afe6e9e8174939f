theorem dX6_init_0 : decode cX6_init 0 = .ok (.aload_n 0, 1) := by decide +kernel
theorem dX6_init_1 : decode cX6_init 1 = .ok (.invokespecial 1, 3) := by decide +kernel
theorem dX6_init_4 : decode cX6_init 4 = .ok (.aload_n 0, 1) := by decide +kernel
theorem dX6_init_5 : decode cX6_init 5 = .ok (.bipush 6, 2) := by decide +kernel
theorem dX6_init_7 : decode cX6_init 7 = .ok (.newarray .int, 2) := by decide +kernel
theorem dX6_init_9 : decode cX6_init 9 = .ok (.putfield 7, 3) := by decide +kernel
theorem dX6_init_12 : decode cX6_init 12 = .ok (.aload_n 0, 1) := by decide +kernel
theorem dX6_init_13 : decode cX6_init 13 = .ok (.bipush 6, 2) := by decide +kernel
theorem dX6_init_15 : decode cX6_init 15 = .ok (.newarray .int, 2) := by decide +kernel
theorem dX6_init_17 : decode cX6_init 17 = .ok (.putfield 13, 3) := by decide +kernel
theorem dX6_init_20 : decode cX6_init 20 = .ok (.aload_n 0, 1) := by decide +kernel
theorem dX6_init_21 : decode cX6_init 21 = .ok (.bipush 6, 2) := by decide +kernel
theorem dX6_init_23 : decode cX6_init 23 = .ok (.newarray .int, 2) := by decide +kernel
theorem dX6_init_25 : decode cX6_init 25 = .ok (.putfield 16, 3) := by decide +kernel
theorem dX6_init_28 : decode cX6_init 28 = .ok (.aload_n 0, 1) := by decide +kernel
theorem dX6_init_29 : decode cX6_init 29 = .ok (.bipush 6, 2) := by decide +kernel
theorem dX6_init_31 : decode cX6_init 31 = .ok (.newarray .int, 2) := by decide +kernel
theorem dX6_init_33 : decode cX6_init 33 = .ok (.putfield 19, 3) := by decide +kernel
theorem dX6_init_36 : decode cX6_init 36 = .ok (.aload_n 0, 1) := by decide +kernel
theorem dX6_init_37 : decode cX6_init 37 = .ok (.bipush 6, 2) := by decide +kernel
theorem dX6_init_39 : decode cX6_init 39 = .ok (.newarray .int, 2) := by decide +kernel
theorem dX6_init_41 : decode cX6_init 41 = .ok (.putfield 22, 3) := by decide +kernel
theorem dX6_init_44 : decode cX6_init 44 = .ok (.aload_n 0, 1) := by decide +kernel
theorem dX6_init_45 : decode cX6_init 45 = .ok (.bipush 6, 2) := by decide +kernel
theorem dX6_init_47 : decode cX6_init 47 = .ok (.newarray .int, 2) := by decide +kernel
theorem dX6_init_49 : decode cX6_init 49 = .ok (.putfield 25, 3) := by decide +kernel
theorem dX6_init_52 : decode cX6_init 52 = .ok (.aload_n 0, 1) := by decide +kernel
theorem dX6_init_53 : decode cX6_init 53 = .ok (.bipush 6, 2) := by decide +kernel
theorem dX6_init_55 : decode cX6_init 55 = .ok (.newarray .int, 2) := by decide +kernel
theorem dX6_init_57 : decode cX6_init 57 = .ok (.putfield 28, 3) := by decide +kernel
theorem dX6_init_60 : decode cX6_init 60 = .ok (.aload_n 0, 1) := by decide +kernel
theorem dX6_init_61 : decode cX6_init 61 = .ok (.bipush 48, 2) := by decide +kernel
theorem dX6_init_63 : decode cX6_init 63 = .ok (.newarray .int, 2) := by decide +kernel
theorem dX6_init_65 : decode cX6_init 65 = .ok (.putfield 31, 3) := by decide +kernel
theorem dX6_init_68 : decode cX6_init 68 = .ok (.aload_n 0, 1) := by decide +kernel
theorem dX6_init_69 : decode cX6_init 69 = .ok (.bipush 6, 2) := by decide +kernel
theorem dX6_init_71 : decode cX6_init 71 = .ok (.newarray .int, 2) := by decide +kernel
theorem dX6_init_73 : decode cX6_init 73 = .ok (.putfield 34, 3) := by decide +kernel
theorem dX6_init_76 : decode cX6_init 76 = .ok (.aload_n 0, 1) := by decide +kernel
theorem dX6_init_77 : decode cX6_init 77 = .ok (.bipush 6, 2) := by decide +kernel
theorem dX6_init_79 : decode cX6_init 79 = .ok (.newarray .int, 2) := by decide +kernel
theorem dX6_init_81 : decode cX6_init 81 = .ok (.putfield 37, 3) := by decide +kernel
theorem dX6_init_84 : decode cX6_init 84 = .ok (.aload_n 0, 1) := by decide +kernel
theorem dX6_init_85 : decode cX6_init 85 = .ok (.bipush 6, 2) := by decide +kernel
theorem dX6_init_87 : decode cX6_init 87 = .ok (.newarray .int, 2) := by decide +kernel
theorem dX6_init_89 : decode cX6_init 89 = .ok (.putfield 40, 3) := by decide +kernel
theorem dX6_init_92 : decode cX6_init 92 = .ok (.aload_n 0, 1) := by decide +kernel
theorem dX6_init_93 : decode cX6_init 93 = .ok (.bipush 6, 2) := by decide +kernel
theorem dX6_init_95 : decode cX6_init 95 = .ok (.newarray .int, 2) := by decide +kernel
theorem dX6_init_97 : decode cX6_init 97 = .ok (.putfield 43, 3) := by decide +kernel
theorem dX6_init_100 : decode cX6_init 100 = .ok (.aload_n 0, 1) := by decide +kernel
theorem dX6_init_101 : decode cX6_init 101 = .ok (.bipush 6, 2) := by decide +kernel
theorem dX6_init_103 : decode cX6_init 103 = .ok (.newarray .int, 2) := by decide +kernel
theorem dX6_init_105 : decode cX6_init 105 = .ok (.putfield 46, 3) := by decide +kernel
theorem dX6_init_108 : decode cX6_init 108 = .ok (.aload_n 0, 1) := by decide +kernel
theorem dX6_init_109 : decode cX6_init 109 = .ok (.bipush 12, 2) := by decide +kernel
theorem dX6_init_111 : decode cX6_init 111 = .ok (.newarray .int, 2) := by decide +kernel
theorem dX6_init_113 : decode cX6_init 113 = .ok (.putfield 49, 3) := by decide +kernel
theorem dX6_init_116 : decode cX6_init 116 = .ok (.aload_n 0, 1) := by decide +kernel
theorem dX6_init_117 : decode cX6_init 117 = .ok (.bipush 12, 2) := by decide +kernel
theorem dX6_init_119 : decode cX6_init 119 = .ok (.newarray .int, 2) := by decide +kernel
theorem dX6_init_121 : decode cX6_init 121 = .ok (.putfield 52, 3) := by decide +kernel
theorem dX6_init_124 : decode cX6_init 124 = .ok (.aload_n 0, 1) := by decide +kernel
theorem dX6_init_125 : decode cX6_init 125 = .ok (.bipush 12, 2) := by decide +kernel
theorem dX6_init_127 : decode cX6_init 127 = .ok (.newarray .boolean, 2) := by decide +kernel
theorem dX6_init_129 : decode cX6_init 129 = .ok (.putfield 55, 3) := by decide +kernel
theorem dX6_init_132 : decode cX6_init 132 = .ok (.aload_n 0, 1) := by decide +kernel
theorem dX6_init_133 : decode cX6_init 133 = .ok (.bipush 12, 2) := by decide +kernel
theorem dX6_init_135 : decode cX6_init 135 = .ok (.newarray .int, 2) := by decide +kernel
theorem dX6_init_137 : decode cX6_init 137 = .ok (.putfield 59, 3) := by decide +kernel
theorem dX6_init_140 : decode cX6_init 140 = .ok (.aload_n 0, 1) := by decide +kernel
theorem dX6_init_141 : decode cX6_init 141 = .ok (.bipush 12, 2) := by decide +kernel
theorem dX6_init_143 : decode cX6_init 143 = .ok (.newarray .int, 2) := by decide +kernel
theorem dX6_init_145 : decode cX6_init 145 = .ok (.putfield 62, 3) := by decide +kernel
theorem dX6_init_148 : decode cX6_init 148 = .ok (.aload_n 0, 1) := by decide +kernel
theorem dX6_init_149 : decode cX6_init 149 = .ok (.sipush 360, 3) := by decide +kernel
theorem dX6_init_152 : decode cX6_init 152 = .ok (.newarray .int, 2) := by decide +kernel
theorem dX6_init_154 : decode cX6_init 154 = .ok (.putfield 65, 3) := by decide +kernel
theorem dX6_init_157 : decode cX6_init 157 = .ok (.aload_n 0, 1) := by decide +kernel
theorem dX6_init_158 : decode cX6_init 158 = .ok (.sipush 360, 3) := by decide +kernel
theorem dX6_init_161 : decode cX6_init 161 = .ok (.newarray .int, 2) := by decide +kernel
theorem dX6_init_163 : decode cX6_init 163 = .ok (.putfield 68, 3) := by decide +kernel
theorem dX6_init_166 : decode cX6_init 166 = .ok (.aload_n 0, 1) := by decide +kernel
theorem dX6_init_167 : decode cX6_init 167 = .ok (.bipush 10, 2) := by decide +kernel
theorem dX6_init_169 : decode cX6_init 169 = .ok (.newarray .int, 2) := by decide +kernel
theorem dX6_init_171 : decode cX6_init 171 = .ok (.putfield 71, 3) := by decide +kernel
theorem dX6_init_174 : decode cX6_init 174 = .ok (.aload_n 0, 1) := by decide +kernel
theorem dX6_init_175 : decode cX6_init 175 = .ok (.bipush 10, 2) := by decide +kernel
theorem dX6_init_177 : decode cX6_init 177 = .ok (.newarray .int, 2) := by decide +kernel
theorem dX6_init_179 : decode cX6_init 179 = .ok (.putfield 74, 3) := by decide +kernel
theorem dX6_init_182 : decode cX6_init 182 = .ok (.aload_n 0, 1) := by decide +kernel
theorem dX6_init_183 : decode cX6_init 183 = .ok (.bipush 10, 2) := by decide +kernel
theorem dX6_init_185 : decode cX6_init 185 = .ok (.newarray .int, 2) := by decide +kernel
theorem dX6_init_187 : decode cX6_init 187 = .ok (.putfield 77, 3) := by decide +kernel
theorem dX6_init_190 : decode cX6_init 190 = .ok (.aload_n 0, 1) := by decide +kernel
theorem dX6_init_191 : decode cX6_init 191 = .ok (.bipush 10, 2) := by decide +kernel
theorem dX6_init_193 : decode cX6_init 193 = .ok (.newarray .int, 2) := by decide +kernel
theorem dX6_init_195 : decode cX6_init 195 = .ok (.putfield 80, 3) := by decide +kernel
theorem dX6_init_198 : decode cX6_init 198 = .ok (.aload_n 0, 1) := by decide +kernel
theorem dX6_init_199 : decode cX6_init 199 = .ok (.bipush 10, 2) := by decide +kernel
theorem dX6_init_201 : decode cX6_init 201 = .ok (.newarray .int, 2) := by decide +kernel
theorem dX6_init_203 : decode cX6_init 203 = .ok (.putfield 83, 3) := by decide +kernel
theorem dX6_init_206 : decode cX6_init 206 = .ok (.aload_n 0, 1) := by decide +kernel
theorem dX6_init_207 : decode cX6_init 207 = .ok (.sipush 600, 3) := by decide +kernel
theorem dX6_init_210 : decode cX6_init 210 = .ok (.newarray .boolean, 2) := by decide +kernel
theorem dX6_init_212 : decode cX6_init 212 = .ok (.putfield 86, 3) := by decide +kernel
theorem dX6_init_215 : decode cX6_init 215 = .ok (.aload_n 0, 1) := by decide +kernel
theorem dX6_init_216 : decode cX6_init 216 = .ok (.iconst (-1), 1) := by decide +kernel
theorem dX6_init_217 : decode cX6_init 217 = .ok (.putfield 89, 3) := by decide +kernel
theorem dX6_init_220 : decode cX6_init 220 = .ok (.aload_n 0, 1) := by decide +kernel
theorem dX6_init_221 : decode cX6_init 221 = .ok (.bipush 20, 2) := by decide +kernel
theorem dX6_init_223 : decode cX6_init 223 = .ok (.newarray .char, 2) := by decide +kernel
theorem dX6_init_225 : decode cX6_init 225 = .ok (.putfield 93, 3) := by decide +kernel
theorem dX6_init_228 : decode cX6_init 228 = .ok (.return_, 1) := by decide +kernel
theorem dX6_thrown_0 : decode cX6_thrown 0 = .ok (.aload_n 0, 1) := by decide +kernel
theorem dX6_thrown_1 : decode cX6_thrown 1 = .ok (.getfield 97, 3) := by decide +kernel
theorem dX6_thrown_4 : decode cX6_thrown 4 = .ok (.ireturn, 1) := by decide +kernel
theorem dX6_fails_0 : decode cX6_fails 0 = .ok (.aload_n 0, 1) := by decide +kernel
theorem dX6_fails_1 : decode cX6_fails 1 = .ok (.iload_n 1, 1) := by decide +kernel
theorem dX6_fails_2 : decode cX6_fails 2 = .ok (.putfield 97, 3) := by decide +kernel
theorem dX6_fails_5 : decode cX6_fails 5 = .ok (.iload_n 1, 1) := by decide +kernel
theorem dX6_fails_6 : decode cX6_fails 6 = .ok (.ifCond .le 7, 3) := by decide +kernel
theorem dX6_fails_9 : decode cX6_fails 9 = .ok (.iconst 1, 1) := by decide +kernel
theorem dX6_fails_10 : decode cX6_fails 10 = .ok (.goto 4, 3) := by decide +kernel
theorem dX6_fails_13 : decode cX6_fails 13 = .ok (.iconst 0, 1) := by decide +kernel
theorem dX6_fails_14 : decode cX6_fails 14 = .ok (.ireturn, 1) := by decide +kernel
theorem dX6_tells_0 : decode cX6_tells 0 = .ok (.aload_n 0, 1) := by decide +kernel
theorem dX6_tells_1 : decode cX6_tells 1 = .ok (.iconst 0, 1) := by decide +kernel
theorem dX6_tells_2 : decode cX6_tells 2 = .ok (.putfield 97, 3) := by decide +kernel
theorem dX6_tells_5 : decode cX6_tells 5 = .ok (.iload_n 1, 1) := by decide +kernel
theorem dX6_tells_6 : decode cX6_tells 6 = .ok (.ireturn, 1) := by decide +kernel
theorem dX6_in_0 : decode cX6_in 0 = .ok (.iload_n 0, 1) := by decide +kernel
theorem dX6_in_1 : decode cX6_in 1 = .ok (.iload_n 1, 1) := by decide +kernel
theorem dX6_in_2 : decode cX6_in 2 = .ok (.if_icmp .lt 12, 3) := by decide +kernel
theorem dX6_in_5 : decode cX6_in 5 = .ok (.iload_n 0, 1) := by decide +kernel
theorem dX6_in_6 : decode cX6_in 6 = .ok (.iload_n 2, 1) := by decide +kernel
theorem dX6_in_7 : decode cX6_in 7 = .ok (.if_icmp .gt 7, 3) := by decide +kernel
theorem dX6_in_10 : decode cX6_in 10 = .ok (.iconst 1, 1) := by decide +kernel
theorem dX6_in_11 : decode cX6_in 11 = .ok (.goto 4, 3) := by decide +kernel
theorem dX6_in_14 : decode cX6_in 14 = .ok (.iconst 0, 1) := by decide +kernel
theorem dX6_in_15 : decode cX6_in 15 = .ok (.ireturn, 1) := by decide +kernel
theorem dX6_lesser_0 : decode cX6_lesser 0 = .ok (.iload_n 0, 1) := by decide +kernel
theorem dX6_lesser_1 : decode cX6_lesser 1 = .ok (.iload_n 1, 1) := by decide +kernel
theorem dX6_lesser_2 : decode cX6_lesser 2 = .ok (.if_icmp .ge 7, 3) := by decide +kernel
theorem dX6_lesser_5 : decode cX6_lesser 5 = .ok (.iload_n 0, 1) := by decide +kernel
theorem dX6_lesser_6 : decode cX6_lesser 6 = .ok (.goto 4, 3) := by decide +kernel
theorem dX6_lesser_9 : decode cX6_lesser 9 = .ok (.iload_n 1, 1) := by decide +kernel
theorem dX6_lesser_10 : decode cX6_lesser 10 = .ok (.ireturn, 1) := by decide +kernel
theorem dX6_isNone_0 : decode cX6_isNone 0 = .ok (.iload_n 1, 1) := by decide +kernel
theorem dX6_isNone_1 : decode cX6_isNone 1 = .ok (.iconst 0, 1) := by decide +kernel
theorem dX6_isNone_2 : decode cX6_isNone 2 = .ok (.aload_n 0, 1) := by decide +kernel
theorem dX6_isNone_3 : decode cX6_isNone 3 = .ok (.getfield 100, 3) := by decide +kernel
theorem dX6_isNone_6 : decode cX6_isNone 6 = .ok (.iconst 1, 1) := by decide +kernel
theorem dX6_isNone_7 : decode cX6_isNone 7 = .ok (.isub, 1) := by decide +kernel
theorem dX6_isNone_8 : decode cX6_isNone 8 = .ok (.invokestatic 103, 3) := by decide +kernel
theorem dX6_isNone_11 : decode cX6_isNone 11 = .ok (.ifCond .ne 7, 3) := by decide +kernel
theorem dX6_isNone_14 : decode cX6_isNone 14 = .ok (.iconst 1, 1) := by decide +kernel
theorem dX6_isNone_15 : decode cX6_isNone 15 = .ok (.goto 4, 3) := by decide +kernel
theorem dX6_isNone_18 : decode cX6_isNone 18 = .ok (.iconst 0, 1) := by decide +kernel
theorem dX6_isNone_19 : decode cX6_isNone 19 = .ok (.ireturn, 1) := by decide +kernel
theorem dX6_isNoCell_0 : decode cX6_isNoCell 0 = .ok (.aload_n 0, 1) := by decide +kernel
theorem dX6_isNoCell_1 : decode cX6_isNoCell 1 = .ok (.iload_n 1, 1) := by decide +kernel
theorem dX6_isNoCell_2 : decode cX6_isNoCell 2 = .ok (.invokevirtual 107, 3) := by decide +kernel
theorem dX6_isNoCell_5 : decode cX6_isNoCell 5 = .ok (.ifCond .ne 19, 3) := by decide +kernel
theorem dX6_isNoCell_8 : decode cX6_isNoCell 8 = .ok (.iload_n 2, 1) := by decide +kernel
theorem dX6_isNoCell_9 : decode cX6_isNoCell 9 = .ok (.iconst 0, 1) := by decide +kernel
theorem dX6_isNoCell_10 : decode cX6_isNoCell 10 = .ok (.aload_n 0, 1) := by decide +kernel
theorem dX6_isNoCell_11 : decode cX6_isNoCell 11 = .ok (.getfield 28, 3) := by decide +kernel
theorem dX6_isNoCell_14 : decode cX6_isNoCell 14 = .ok (.iload_n 1, 1) := by decide +kernel
theorem dX6_isNoCell_15 : decode cX6_isNoCell 15 = .ok (.iaload, 1) := by decide +kernel
theorem dX6_isNoCell_16 : decode cX6_isNoCell 16 = .ok (.iconst 1, 1) := by decide +kernel
theorem dX6_isNoCell_17 : decode cX6_isNoCell 17 = .ok (.isub, 1) := by decide +kernel
theorem dX6_isNoCell_18 : decode cX6_isNoCell 18 = .ok (.invokestatic 103, 3) := by decide +kernel
theorem dX6_isNoCell_21 : decode cX6_isNoCell 21 = .ok (.ifCond .ne 7, 3) := by decide +kernel
theorem dX6_isNoCell_24 : decode cX6_isNoCell 24 = .ok (.iconst 1, 1) := by decide +kernel
theorem dX6_isNoCell_25 : decode cX6_isNoCell 25 = .ok (.goto 4, 3) := by decide +kernel
theorem dX6_isNoCell_28 : decode cX6_isNoCell 28 = .ok (.iconst 0, 1) := by decide +kernel
theorem dX6_isNoCell_29 : decode cX6_isNoCell 29 = .ok (.ireturn, 1) := by decide +kernel
theorem dX6_isNoRule_0 : decode cX6_isNoRule 0 = .ok (.aload_n 0, 1) := by decide +kernel
theorem dX6_isNoRule_1 : decode cX6_isNoRule 1 = .ok (.iload_n 1, 1) := by decide +kernel
theorem dX6_isNoRule_2 : decode cX6_isNoRule 2 = .ok (.iconst 0, 1) := by decide +kernel
theorem dX6_isNoRule_3 : decode cX6_isNoRule 3 = .ok (.aload_n 0, 1) := by decide +kernel
theorem dX6_isNoRule_4 : decode cX6_isNoRule 4 = .ok (.getfield 111, 3) := by decide +kernel
theorem dX6_isNoRule_7 : decode cX6_isNoRule 7 = .ok (.iconst 1, 1) := by decide +kernel
theorem dX6_isNoRule_8 : decode cX6_isNoRule 8 = .ok (.isub, 1) := by decide +kernel
theorem dX6_isNoRule_9 : decode cX6_isNoRule 9 = .ok (.invokestatic 103, 3) := by decide +kernel
theorem dX6_isNoRule_12 : decode cX6_isNoRule 12 = .ok (.ifCond .eq 7, 3) := by decide +kernel
theorem dX6_isNoRule_15 : decode cX6_isNoRule 15 = .ok (.iconst 0, 1) := by decide +kernel
theorem dX6_isNoRule_16 : decode cX6_isNoRule 16 = .ok (.goto 4, 3) := by decide +kernel
theorem dX6_isNoRule_19 : decode cX6_isNoRule 19 = .ok (.iconst 1, 1) := by decide +kernel
theorem dX6_isNoRule_20 : decode cX6_isNoRule 20 = .ok (.invokevirtual 114, 3) := by decide +kernel
theorem dX6_isNoRule_23 : decode cX6_isNoRule 23 = .ok (.ireturn, 1) := by decide +kernel
theorem dX6_isNoHouse_0 : decode cX6_isNoHouse 0 = .ok (.iload_n 1, 1) := by decide +kernel
theorem dX6_isNoHouse_1 : decode cX6_isNoHouse 1 = .ok (.iconst 0, 1) := by decide +kernel
theorem dX6_isNoHouse_2 : decode cX6_isNoHouse 2 = .ok (.aload_n 0, 1) := by decide +kernel
theorem dX6_isNoHouse_3 : decode cX6_isNoHouse 3 = .ok (.getfield 117, 3) := by decide +kernel
theorem dX6_isNoHouse_6 : decode cX6_isNoHouse 6 = .ok (.iconst 1, 1) := by decide +kernel
theorem dX6_isNoHouse_7 : decode cX6_isNoHouse 7 = .ok (.isub, 1) := by decide +kernel
theorem dX6_isNoHouse_8 : decode cX6_isNoHouse 8 = .ok (.invokestatic 103, 3) := by decide +kernel
theorem dX6_isNoHouse_11 : decode cX6_isNoHouse 11 = .ok (.ifCond .ne 7, 3) := by decide +kernel
theorem dX6_isNoHouse_14 : decode cX6_isNoHouse 14 = .ok (.iconst 1, 1) := by decide +kernel
theorem dX6_isNoHouse_15 : decode cX6_isNoHouse 15 = .ok (.goto 4, 3) := by decide +kernel
theorem dX6_isNoHouse_18 : decode cX6_isNoHouse 18 = .ok (.iconst 0, 1) := by decide +kernel
theorem dX6_isNoHouse_19 : decode cX6_isNoHouse 19 = .ok (.ireturn, 1) := by decide +kernel
theorem dX6_addBasin_0 : decode cX6_addBasin 0 = .ok (.aload_n 0, 1) := by decide +kernel
theorem dX6_addBasin_1 : decode cX6_addBasin 1 = .ok (.getfield 100, 3) := by decide +kernel
theorem dX6_addBasin_4 : decode cX6_addBasin 4 = .ok (.ifCond .ne 17, 3) := by decide +kernel
theorem dX6_addBasin_7 : decode cX6_addBasin 7 = .ok (.iload 4, 2) := by decide +kernel
theorem dX6_addBasin_9 : decode cX6_addBasin 9 = .ok (.iconst (-1), 1) := by decide +kernel
theorem dX6_addBasin_10 : decode cX6_addBasin 10 = .ok (.if_icmp .eq 7, 3) := by decide +kernel
theorem dX6_addBasin_13 : decode cX6_addBasin 13 = .ok (.iconst 1, 1) := by decide +kernel
theorem dX6_addBasin_14 : decode cX6_addBasin 14 = .ok (.goto 13, 3) := by decide +kernel
theorem dX6_addBasin_17 : decode cX6_addBasin 17 = .ok (.iconst 0, 1) := by decide +kernel
theorem dX6_addBasin_18 : decode cX6_addBasin 18 = .ok (.goto 9, 3) := by decide +kernel
theorem dX6_addBasin_21 : decode cX6_addBasin 21 = .ok (.aload_n 0, 1) := by decide +kernel
theorem dX6_addBasin_22 : decode cX6_addBasin 22 = .ok (.iload 4, 2) := by decide +kernel
theorem dX6_addBasin_24 : decode cX6_addBasin 24 = .ok (.invokevirtual 107, 3) := by decide +kernel
theorem dX6_addBasin_27 : decode cX6_addBasin 27 = .ok (.istore 6, 2) := by decide +kernel
theorem dX6_addBasin_29 : decode cX6_addBasin 29 = .ok (.iload_n 1, 1) := by decide +kernel
theorem dX6_addBasin_30 : decode cX6_addBasin 30 = .ok (.iconst 1, 1) := by decide +kernel
theorem dX6_addBasin_31 : decode cX6_addBasin 31 = .ok (.bipush 50, 2) := by decide +kernel
theorem dX6_addBasin_33 : decode cX6_addBasin 33 = .ok (.invokestatic 103, 3) := by decide +kernel
theorem dX6_addBasin_36 : decode cX6_addBasin 36 = .ok (.ifCond .eq 38, 3) := by decide +kernel
theorem dX6_addBasin_39 : decode cX6_addBasin 39 = .ok (.iload_n 2, 1) := by decide +kernel
theorem dX6_addBasin_40 : decode cX6_addBasin 40 = .ok (.iconst 1, 1) := by decide +kernel
theorem dX6_addBasin_41 : decode cX6_addBasin 41 = .ok (.bipush 40, 2) := by decide +kernel
theorem dX6_addBasin_43 : decode cX6_addBasin 43 = .ok (.invokestatic 103, 3) := by decide +kernel
theorem dX6_addBasin_46 : decode cX6_addBasin 46 = .ok (.ifCond .eq 28, 3) := by decide +kernel
theorem dX6_addBasin_49 : decode cX6_addBasin 49 = .ok (.iload_n 3, 1) := by decide +kernel
theorem dX6_addBasin_50 : decode cX6_addBasin 50 = .ok (.iconst 0, 1) := by decide +kernel
theorem dX6_addBasin_51 : decode cX6_addBasin 51 = .ok (.bipush 20, 2) := by decide +kernel
theorem dX6_addBasin_53 : decode cX6_addBasin 53 = .ok (.invokestatic 103, 3) := by decide +kernel
theorem dX6_addBasin_56 : decode cX6_addBasin 56 = .ok (.ifCond .eq 18, 3) := by decide +kernel
theorem dX6_addBasin_59 : decode cX6_addBasin 59 = .ok (.iload 5, 2) := by decide +kernel
theorem dX6_addBasin_61 : decode cX6_addBasin 61 = .ok (.iconst 0, 1) := by decide +kernel
theorem dX6_addBasin_62 : decode cX6_addBasin 62 = .ok (.bipush 30, 2) := by decide +kernel
theorem dX6_addBasin_64 : decode cX6_addBasin 64 = .ok (.invokestatic 103, 3) := by decide +kernel
theorem dX6_addBasin_67 : decode cX6_addBasin 67 = .ok (.ifCond .eq 7, 3) := by decide +kernel
theorem dX6_addBasin_70 : decode cX6_addBasin 70 = .ok (.iconst 1, 1) := by decide +kernel
theorem dX6_addBasin_71 : decode cX6_addBasin 71 = .ok (.goto 4, 3) := by decide +kernel
theorem dX6_addBasin_74 : decode cX6_addBasin 74 = .ok (.iconst 0, 1) := by decide +kernel
theorem dX6_addBasin_75 : decode cX6_addBasin 75 = .ok (.istore 7, 2) := by decide +kernel
theorem dX6_addBasin_77 : decode cX6_addBasin 77 = .ok (.aload_n 0, 1) := by decide +kernel
theorem dX6_addBasin_78 : decode cX6_addBasin 78 = .ok (.iload 6, 2) := by decide +kernel
theorem dX6_addBasin_80 : decode cX6_addBasin 80 = .ok (.ifCond .eq 7, 3) := by decide +kernel
theorem dX6_addBasin_83 : decode cX6_addBasin 83 = .ok (.iconst 1, 1) := by decide +kernel
theorem dX6_addBasin_84 : decode cX6_addBasin 84 = .ok (.goto 33, 3) := by decide +kernel
theorem dX6_addBasin_87 : decode cX6_addBasin 87 = .ok (.iload 7, 2) := by decide +kernel
theorem dX6_addBasin_89 : decode cX6_addBasin 89 = .ok (.ifCond .ne 7, 3) := by decide +kernel
theorem dX6_addBasin_92 : decode cX6_addBasin 92 = .ok (.iconst 2, 1) := by decide +kernel
theorem dX6_addBasin_93 : decode cX6_addBasin 93 = .ok (.goto 24, 3) := by decide +kernel
theorem dX6_addBasin_96 : decode cX6_addBasin 96 = .ok (.aload_n 0, 1) := by decide +kernel
theorem dX6_addBasin_97 : decode cX6_addBasin 97 = .ok (.getfield 100, 3) := by decide +kernel
theorem dX6_addBasin_100 : decode cX6_addBasin 100 = .ok (.bipush 6, 2) := by decide +kernel
theorem dX6_addBasin_102 : decode cX6_addBasin 102 = .ok (.if_icmp .eq 10, 3) := by decide +kernel
theorem dX6_addBasin_105 : decode cX6_addBasin 105 = .ok (.aload_n 0, 1) := by decide +kernel
theorem dX6_addBasin_106 : decode cX6_addBasin 106 = .ok (.getfield 120, 3) := by decide +kernel
theorem dX6_addBasin_109 : decode cX6_addBasin 109 = .ok (.ifCond .le 7, 3) := by decide +kernel
theorem dX6_addBasin_112 : decode cX6_addBasin 112 = .ok (.iconst 3, 1) := by decide +kernel
theorem dX6_addBasin_113 : decode cX6_addBasin 113 = .ok (.goto 4, 3) := by decide +kernel
theorem dX6_addBasin_116 : decode cX6_addBasin 116 = .ok (.iconst 0, 1) := by decide +kernel
theorem dX6_addBasin_117 : decode cX6_addBasin 117 = .ok (.invokevirtual 114, 3) := by decide +kernel
theorem dX6_addBasin_120 : decode cX6_addBasin 120 = .ok (.ifCond .eq 5, 3) := by decide +kernel
theorem dX6_addBasin_123 : decode cX6_addBasin 123 = .ok (.iconst 0, 1) := by decide +kernel
theorem dX6_addBasin_124 : decode cX6_addBasin 124 = .ok (.ireturn, 1) := by decide +kernel
theorem dX6_addBasin_125 : decode cX6_addBasin 125 = .ok (.aload_n 0, 1) := by decide +kernel
theorem dX6_addBasin_126 : decode cX6_addBasin 126 = .ok (.getfield 7, 3) := by decide +kernel
theorem dX6_addBasin_129 : decode cX6_addBasin 129 = .ok (.aload_n 0, 1) := by decide +kernel
theorem dX6_addBasin_130 : decode cX6_addBasin 130 = .ok (.getfield 100, 3) := by decide +kernel
theorem dX6_addBasin_133 : decode cX6_addBasin 133 = .ok (.iload_n 1, 1) := by decide +kernel
theorem dX6_addBasin_134 : decode cX6_addBasin 134 = .ok (.iastore, 1) := by decide +kernel
theorem dX6_addBasin_135 : decode cX6_addBasin 135 = .ok (.aload_n 0, 1) := by decide +kernel
theorem dX6_addBasin_136 : decode cX6_addBasin 136 = .ok (.getfield 13, 3) := by decide +kernel
theorem dX6_addBasin_139 : decode cX6_addBasin 139 = .ok (.aload_n 0, 1) := by decide +kernel
theorem dX6_addBasin_140 : decode cX6_addBasin 140 = .ok (.getfield 100, 3) := by decide +kernel
theorem dX6_addBasin_143 : decode cX6_addBasin 143 = .ok (.iload_n 2, 1) := by decide +kernel
theorem dX6_addBasin_144 : decode cX6_addBasin 144 = .ok (.iastore, 1) := by decide +kernel
theorem dX6_addBasin_145 : decode cX6_addBasin 145 = .ok (.aload_n 0, 1) := by decide +kernel
theorem dX6_addBasin_146 : decode cX6_addBasin 146 = .ok (.getfield 16, 3) := by decide +kernel
theorem dX6_addBasin_149 : decode cX6_addBasin 149 = .ok (.aload_n 0, 1) := by decide +kernel
theorem dX6_addBasin_150 : decode cX6_addBasin 150 = .ok (.getfield 100, 3) := by decide +kernel
theorem dX6_addBasin_153 : decode cX6_addBasin 153 = .ok (.iload_n 3, 1) := by decide +kernel
theorem dX6_addBasin_154 : decode cX6_addBasin 154 = .ok (.iastore, 1) := by decide +kernel
theorem dX6_addBasin_155 : decode cX6_addBasin 155 = .ok (.aload_n 0, 1) := by decide +kernel
theorem dX6_addBasin_156 : decode cX6_addBasin 156 = .ok (.getfield 19, 3) := by decide +kernel
theorem dX6_addBasin_159 : decode cX6_addBasin 159 = .ok (.aload_n 0, 1) := by decide +kernel
theorem dX6_addBasin_160 : decode cX6_addBasin 160 = .ok (.getfield 100, 3) := by decide +kernel
theorem dX6_addBasin_163 : decode cX6_addBasin 163 = .ok (.iload 4, 2) := by decide +kernel
theorem dX6_addBasin_165 : decode cX6_addBasin 165 = .ok (.iastore, 1) := by decide +kernel
theorem dX6_addBasin_166 : decode cX6_addBasin 166 = .ok (.aload_n 0, 1) := by decide +kernel
theorem dX6_addBasin_167 : decode cX6_addBasin 167 = .ok (.getfield 31, 3) := by decide +kernel
theorem dX6_addBasin_170 : decode cX6_addBasin 170 = .ok (.bipush 8, 2) := by decide +kernel
theorem dX6_addBasin_172 : decode cX6_addBasin 172 = .ok (.aload_n 0, 1) := by decide +kernel
theorem dX6_addBasin_173 : decode cX6_addBasin 173 = .ok (.getfield 100, 3) := by decide +kernel
theorem dX6_addBasin_176 : decode cX6_addBasin 176 = .ok (.imul, 1) := by decide +kernel
theorem dX6_addBasin_177 : decode cX6_addBasin 177 = .ok (.iload 5, 2) := by decide +kernel
theorem dX6_addBasin_179 : decode cX6_addBasin 179 = .ok (.iastore, 1) := by decide +kernel
theorem dX6_addBasin_180 : decode cX6_addBasin 180 = .ok (.aload_n 0, 1) := by decide +kernel
theorem dX6_addBasin_181 : decode cX6_addBasin 181 = .ok (.getfield 28, 3) := by decide +kernel
theorem dX6_addBasin_184 : decode cX6_addBasin 184 = .ok (.aload_n 0, 1) := by decide +kernel
theorem dX6_addBasin_185 : decode cX6_addBasin 185 = .ok (.getfield 100, 3) := by decide +kernel
theorem dX6_addBasin_188 : decode cX6_addBasin 188 = .ok (.iconst 1, 1) := by decide +kernel
theorem dX6_addBasin_189 : decode cX6_addBasin 189 = .ok (.iastore, 1) := by decide +kernel
theorem dX6_addBasin_190 : decode cX6_addBasin 190 = .ok (.aload_n 0, 1) := by decide +kernel
theorem dX6_addBasin_191 : decode cX6_addBasin 191 = .ok (.dup, 1) := by decide +kernel
theorem dX6_addBasin_192 : decode cX6_addBasin 192 = .ok (.getfield 100, 3) := by decide +kernel
theorem dX6_addBasin_195 : decode cX6_addBasin 195 = .ok (.iconst 1, 1) := by decide +kernel
theorem dX6_addBasin_196 : decode cX6_addBasin 196 = .ok (.iadd, 1) := by decide +kernel
theorem dX6_addBasin_197 : decode cX6_addBasin 197 = .ok (.putfield 100, 3) := by decide +kernel
theorem dX6_addBasin_200 : decode cX6_addBasin 200 = .ok (.aload_n 0, 1) := by decide +kernel
theorem dX6_addBasin_201 : decode cX6_addBasin 201 = .ok (.getfield 100, 3) := by decide +kernel
theorem dX6_addBasin_204 : decode cX6_addBasin 204 = .ok (.iconst 1, 1) := by decide +kernel
theorem dX6_addBasin_205 : decode cX6_addBasin 205 = .ok (.isub, 1) := by decide +kernel
theorem dX6_addBasin_206 : decode cX6_addBasin 206 = .ok (.ireturn, 1) := by decide +kernel
theorem dX6_addCell_0 : decode cX6_addCell 0 = .ok (.aload_n 0, 1) := by decide +kernel
theorem dX6_addCell_1 : decode cX6_addCell 1 = .ok (.aload_n 0, 1) := by decide +kernel
theorem dX6_addCell_2 : decode cX6_addCell 2 = .ok (.iload_n 1, 1) := by decide +kernel
theorem dX6_addCell_3 : decode cX6_addCell 3 = .ok (.invokevirtual 107, 3) := by decide +kernel
theorem dX6_addCell_6 : decode cX6_addCell 6 = .ok (.ifCond .eq 7, 3) := by decide +kernel
theorem dX6_addCell_9 : decode cX6_addCell 9 = .ok (.iconst 1, 1) := by decide +kernel
theorem dX6_addCell_10 : decode cX6_addCell 10 = .ok (.goto 40, 3) := by decide +kernel
theorem dX6_addCell_13 : decode cX6_addCell 13 = .ok (.iload_n 2, 1) := by decide +kernel
theorem dX6_addCell_14 : decode cX6_addCell 14 = .ok (.iconst 0, 1) := by decide +kernel
theorem dX6_addCell_15 : decode cX6_addCell 15 = .ok (.bipush 30, 2) := by decide +kernel
theorem dX6_addCell_17 : decode cX6_addCell 17 = .ok (.invokestatic 103, 3) := by decide +kernel
theorem dX6_addCell_20 : decode cX6_addCell 20 = .ok (.ifCond .ne 7, 3) := by decide +kernel
theorem dX6_addCell_23 : decode cX6_addCell 23 = .ok (.iconst 2, 1) := by decide +kernel
theorem dX6_addCell_24 : decode cX6_addCell 24 = .ok (.goto 26, 3) := by decide +kernel
theorem dX6_addCell_27 : decode cX6_addCell 27 = .ok (.aload_n 0, 1) := by decide +kernel
theorem dX6_addCell_28 : decode cX6_addCell 28 = .ok (.getfield 28, 3) := by decide +kernel
theorem dX6_addCell_31 : decode cX6_addCell 31 = .ok (.iload_n 1, 1) := by decide +kernel
theorem dX6_addCell_32 : decode cX6_addCell 32 = .ok (.iaload, 1) := by decide +kernel
theorem dX6_addCell_33 : decode cX6_addCell 33 = .ok (.bipush 8, 2) := by decide +kernel
theorem dX6_addCell_35 : decode cX6_addCell 35 = .ok (.if_icmp .eq 10, 3) := by decide +kernel
theorem dX6_addCell_38 : decode cX6_addCell 38 = .ok (.aload_n 0, 1) := by decide +kernel
theorem dX6_addCell_39 : decode cX6_addCell 39 = .ok (.getfield 120, 3) := by decide +kernel
theorem dX6_addCell_42 : decode cX6_addCell 42 = .ok (.ifCond .le 7, 3) := by decide +kernel
theorem dX6_addCell_45 : decode cX6_addCell 45 = .ok (.iconst 3, 1) := by decide +kernel
theorem dX6_addCell_46 : decode cX6_addCell 46 = .ok (.goto 4, 3) := by decide +kernel
theorem dX6_addCell_49 : decode cX6_addCell 49 = .ok (.iconst 0, 1) := by decide +kernel
theorem dX6_addCell_50 : decode cX6_addCell 50 = .ok (.invokevirtual 114, 3) := by decide +kernel
theorem dX6_addCell_53 : decode cX6_addCell 53 = .ok (.ifCond .eq 5, 3) := by decide +kernel
theorem dX6_addCell_56 : decode cX6_addCell 56 = .ok (.iconst 0, 1) := by decide +kernel
theorem dX6_addCell_57 : decode cX6_addCell 57 = .ok (.ireturn, 1) := by decide +kernel
theorem dX6_addCell_58 : decode cX6_addCell 58 = .ok (.aload_n 0, 1) := by decide +kernel
theorem dX6_addCell_59 : decode cX6_addCell 59 = .ok (.getfield 31, 3) := by decide +kernel
theorem dX6_addCell_62 : decode cX6_addCell 62 = .ok (.bipush 8, 2) := by decide +kernel
theorem dX6_addCell_64 : decode cX6_addCell 64 = .ok (.iload_n 1, 1) := by decide +kernel
theorem dX6_addCell_65 : decode cX6_addCell 65 = .ok (.imul, 1) := by decide +kernel
theorem dX6_addCell_66 : decode cX6_addCell 66 = .ok (.aload_n 0, 1) := by decide +kernel
theorem dX6_addCell_67 : decode cX6_addCell 67 = .ok (.getfield 28, 3) := by decide +kernel
theorem dX6_addCell_70 : decode cX6_addCell 70 = .ok (.iload_n 1, 1) := by decide +kernel
theorem dX6_addCell_71 : decode cX6_addCell 71 = .ok (.iaload, 1) := by decide +kernel
theorem dX6_addCell_72 : decode cX6_addCell 72 = .ok (.iadd, 1) := by decide +kernel
theorem dX6_addCell_73 : decode cX6_addCell 73 = .ok (.iload_n 2, 1) := by decide +kernel
theorem dX6_addCell_74 : decode cX6_addCell 74 = .ok (.iastore, 1) := by decide +kernel
theorem dX6_addCell_75 : decode cX6_addCell 75 = .ok (.aload_n 0, 1) := by decide +kernel
theorem dX6_addCell_76 : decode cX6_addCell 76 = .ok (.getfield 28, 3) := by decide +kernel
theorem dX6_addCell_79 : decode cX6_addCell 79 = .ok (.iload_n 1, 1) := by decide +kernel
theorem dX6_addCell_80 : decode cX6_addCell 80 = .ok (.dup2, 1) := by decide +kernel
theorem dX6_addCell_81 : decode cX6_addCell 81 = .ok (.iaload, 1) := by decide +kernel
theorem dX6_addCell_82 : decode cX6_addCell 82 = .ok (.iconst 1, 1) := by decide +kernel
theorem dX6_addCell_83 : decode cX6_addCell 83 = .ok (.iadd, 1) := by decide +kernel
theorem dX6_addCell_84 : decode cX6_addCell 84 = .ok (.iastore, 1) := by decide +kernel
theorem dX6_addCell_85 : decode cX6_addCell 85 = .ok (.aload_n 0, 1) := by decide +kernel
theorem dX6_addCell_86 : decode cX6_addCell 86 = .ok (.getfield 28, 3) := by decide +kernel
theorem dX6_addCell_89 : decode cX6_addCell 89 = .ok (.iload_n 1, 1) := by decide +kernel
theorem dX6_addCell_90 : decode cX6_addCell 90 = .ok (.iaload, 1) := by decide +kernel
theorem dX6_addCell_91 : decode cX6_addCell 91 = .ok (.ireturn, 1) := by decide +kernel
theorem dX6_basinCount_0 : decode cX6_basinCount 0 = .ok (.aload_n 0, 1) := by decide +kernel
theorem dX6_basinCount_1 : decode cX6_basinCount 1 = .ok (.aload_n 0, 1) := by decide +kernel
theorem dX6_basinCount_2 : decode cX6_basinCount 2 = .ok (.getfield 100, 3) := by decide +kernel
theorem dX6_basinCount_5 : decode cX6_basinCount 5 = .ok (.invokevirtual 123, 3) := by decide +kernel
theorem dX6_basinCount_8 : decode cX6_basinCount 8 = .ok (.ireturn, 1) := by decide +kernel
theorem dX6_cellCount_0 : decode cX6_cellCount 0 = .ok (.aload_n 0, 1) := by decide +kernel
theorem dX6_cellCount_1 : decode cX6_cellCount 1 = .ok (.aload_n 0, 1) := by decide +kernel
theorem dX6_cellCount_2 : decode cX6_cellCount 2 = .ok (.iload_n 1, 1) := by decide +kernel
theorem dX6_cellCount_3 : decode cX6_cellCount 3 = .ok (.invokevirtual 107, 3) := by decide +kernel
theorem dX6_cellCount_6 : decode cX6_cellCount 6 = .ok (.ifCond .eq 7, 3) := by decide +kernel
theorem dX6_cellCount_9 : decode cX6_cellCount 9 = .ok (.iconst 1, 1) := by decide +kernel
theorem dX6_cellCount_10 : decode cX6_cellCount 10 = .ok (.goto 4, 3) := by decide +kernel
theorem dX6_cellCount_13 : decode cX6_cellCount 13 = .ok (.iconst 0, 1) := by decide +kernel
theorem dX6_cellCount_14 : decode cX6_cellCount 14 = .ok (.invokevirtual 114, 3) := by decide +kernel
theorem dX6_cellCount_17 : decode cX6_cellCount 17 = .ok (.ifCond .eq 7, 3) := by decide +kernel
theorem dX6_cellCount_20 : decode cX6_cellCount 20 = .ok (.iconst 0, 1) := by decide +kernel
theorem dX6_cellCount_21 : decode cX6_cellCount 21 = .ok (.goto 9, 3) := by decide +kernel
theorem dX6_cellCount_24 : decode cX6_cellCount 24 = .ok (.aload_n 0, 1) := by decide +kernel
theorem dX6_cellCount_25 : decode cX6_cellCount 25 = .ok (.getfield 28, 3) := by decide +kernel
theorem dX6_cellCount_28 : decode cX6_cellCount 28 = .ok (.iload_n 1, 1) := by decide +kernel
theorem dX6_cellCount_29 : decode cX6_cellCount 29 = .ok (.iaload, 1) := by decide +kernel
theorem dX6_cellCount_30 : decode cX6_cellCount 30 = .ok (.ireturn, 1) := by decide +kernel
theorem dX6_holds_0 : decode cX6_holds 0 = .ok (.aload_n 0, 1) := by decide +kernel
theorem dX6_holds_1 : decode cX6_holds 1 = .ok (.getfield 7, 3) := by decide +kernel
theorem dX6_holds_4 : decode cX6_holds 4 = .ok (.iload_n 1, 1) := by decide +kernel
theorem dX6_holds_5 : decode cX6_holds 5 = .ok (.iaload, 1) := by decide +kernel
theorem dX6_holds_6 : decode cX6_holds 6 = .ok (.aload_n 0, 1) := by decide +kernel
theorem dX6_holds_7 : decode cX6_holds 7 = .ok (.getfield 13, 3) := by decide +kernel
theorem dX6_holds_10 : decode cX6_holds 10 = .ok (.iload_n 1, 1) := by decide +kernel
theorem dX6_holds_11 : decode cX6_holds 11 = .ok (.iaload, 1) := by decide +kernel
theorem dX6_holds_12 : decode cX6_holds 12 = .ok (.imul, 1) := by decide +kernel
theorem dX6_holds_13 : decode cX6_holds 13 = .ok (.ireturn, 1) := by decide +kernel
theorem dX6_capacityOf_0 : decode cX6_capacityOf 0 = .ok (.aload_n 0, 1) := by decide +kernel
theorem dX6_capacityOf_1 : decode cX6_capacityOf 1 = .ok (.aload_n 0, 1) := by decide +kernel
theorem dX6_capacityOf_2 : decode cX6_capacityOf 2 = .ok (.iload_n 1, 1) := by decide +kernel
theorem dX6_capacityOf_3 : decode cX6_capacityOf 3 = .ok (.invokevirtual 107, 3) := by decide +kernel
theorem dX6_capacityOf_6 : decode cX6_capacityOf 6 = .ok (.ifCond .eq 7, 3) := by decide +kernel
theorem dX6_capacityOf_9 : decode cX6_capacityOf 9 = .ok (.iconst 1, 1) := by decide +kernel
theorem dX6_capacityOf_10 : decode cX6_capacityOf 10 = .ok (.goto 4, 3) := by decide +kernel
theorem dX6_capacityOf_13 : decode cX6_capacityOf 13 = .ok (.iconst 0, 1) := by decide +kernel
theorem dX6_capacityOf_14 : decode cX6_capacityOf 14 = .ok (.invokevirtual 114, 3) := by decide +kernel
theorem dX6_capacityOf_17 : decode cX6_capacityOf 17 = .ok (.ifCond .eq 7, 3) := by decide +kernel
theorem dX6_capacityOf_20 : decode cX6_capacityOf 20 = .ok (.iconst 0, 1) := by decide +kernel
theorem dX6_capacityOf_21 : decode cX6_capacityOf 21 = .ok (.goto 8, 3) := by decide +kernel
theorem dX6_capacityOf_24 : decode cX6_capacityOf 24 = .ok (.aload_n 0, 1) := by decide +kernel
theorem dX6_capacityOf_25 : decode cX6_capacityOf 25 = .ok (.iload_n 1, 1) := by decide +kernel
theorem dX6_capacityOf_26 : decode cX6_capacityOf 26 = .ok (.invokevirtual 127, 3) := by decide +kernel
theorem dX6_capacityOf_29 : decode cX6_capacityOf 29 = .ok (.ireturn, 1) := by decide +kernel
theorem dX6_setHand_0 : decode cX6_setHand 0 = .ok (.aload_n 0, 1) := by decide +kernel
theorem dX6_setHand_1 : decode cX6_setHand 1 = .ok (.aload_n 0, 1) := by decide +kernel
theorem dX6_setHand_2 : decode cX6_setHand 2 = .ok (.iload_n 1, 1) := by decide +kernel
theorem dX6_setHand_3 : decode cX6_setHand 3 = .ok (.invokevirtual 107, 3) := by decide +kernel
theorem dX6_setHand_6 : decode cX6_setHand 6 = .ok (.ifCond .eq 7, 3) := by decide +kernel
theorem dX6_setHand_9 : decode cX6_setHand 9 = .ok (.iconst 1, 1) := by decide +kernel
theorem dX6_setHand_10 : decode cX6_setHand 10 = .ok (.goto 18, 3) := by decide +kernel
theorem dX6_setHand_13 : decode cX6_setHand 13 = .ok (.iload_n 2, 1) := by decide +kernel
theorem dX6_setHand_14 : decode cX6_setHand 14 = .ok (.iconst 0, 1) := by decide +kernel
theorem dX6_setHand_15 : decode cX6_setHand 15 = .ok (.bipush 10, 2) := by decide +kernel
theorem dX6_setHand_17 : decode cX6_setHand 17 = .ok (.invokestatic 103, 3) := by decide +kernel
theorem dX6_setHand_20 : decode cX6_setHand 20 = .ok (.ifCond .eq 7, 3) := by decide +kernel
theorem dX6_setHand_23 : decode cX6_setHand 23 = .ok (.iconst 0, 1) := by decide +kernel
theorem dX6_setHand_24 : decode cX6_setHand 24 = .ok (.goto 4, 3) := by decide +kernel
theorem dX6_setHand_27 : decode cX6_setHand 27 = .ok (.iconst 2, 1) := by decide +kernel
theorem dX6_setHand_28 : decode cX6_setHand 28 = .ok (.invokevirtual 114, 3) := by decide +kernel
theorem dX6_setHand_31 : decode cX6_setHand 31 = .ok (.ifCond .eq 5, 3) := by decide +kernel
theorem dX6_setHand_34 : decode cX6_setHand 34 = .ok (.iconst 0, 1) := by decide +kernel
theorem dX6_setHand_35 : decode cX6_setHand 35 = .ok (.ireturn, 1) := by decide +kernel
theorem dX6_setHand_36 : decode cX6_setHand 36 = .ok (.aload_n 0, 1) := by decide +kernel
theorem dX6_setHand_37 : decode cX6_setHand 37 = .ok (.getfield 22, 3) := by decide +kernel
theorem dX6_setHand_40 : decode cX6_setHand 40 = .ok (.iload_n 1, 1) := by decide +kernel
theorem dX6_setHand_41 : decode cX6_setHand 41 = .ok (.iaload, 1) := by decide +kernel
theorem dX6_setHand_42 : decode cX6_setHand 42 = .ok (.istore_n 3, 1) := by decide +kernel
theorem dX6_setHand_43 : decode cX6_setHand 43 = .ok (.aload_n 0, 1) := by decide +kernel
theorem dX6_setHand_44 : decode cX6_setHand 44 = .ok (.getfield 22, 3) := by decide +kernel
theorem dX6_setHand_47 : decode cX6_setHand 47 = .ok (.iload_n 1, 1) := by decide +kernel
theorem dX6_setHand_48 : decode cX6_setHand 48 = .ok (.iload_n 2, 1) := by decide +kernel
theorem dX6_setHand_49 : decode cX6_setHand 49 = .ok (.iastore, 1) := by decide +kernel
theorem dX6_setHand_50 : decode cX6_setHand 50 = .ok (.iload_n 3, 1) := by decide +kernel
theorem dX6_setHand_51 : decode cX6_setHand 51 = .ok (.ireturn, 1) := by decide +kernel
theorem dX6_addRule_0 : decode cX6_addRule 0 = .ok (.aload_n 0, 1) := by decide +kernel
theorem dX6_addRule_1 : decode cX6_addRule 1 = .ok (.aload_n 0, 1) := by decide +kernel
theorem dX6_addRule_2 : decode cX6_addRule 2 = .ok (.iload_n 1, 1) := by decide +kernel
theorem dX6_addRule_3 : decode cX6_addRule 3 = .ok (.invokevirtual 107, 3) := by decide +kernel
theorem dX6_addRule_6 : decode cX6_addRule 6 = .ok (.ifCond .ne 11, 3) := by decide +kernel
theorem dX6_addRule_9 : decode cX6_addRule 9 = .ok (.aload_n 0, 1) := by decide +kernel
theorem dX6_addRule_10 : decode cX6_addRule 10 = .ok (.iload_n 2, 1) := by decide +kernel
theorem dX6_addRule_11 : decode cX6_addRule 11 = .ok (.invokevirtual 107, 3) := by decide +kernel
theorem dX6_addRule_14 : decode cX6_addRule 14 = .ok (.ifCond .eq 7, 3) := by decide +kernel
theorem dX6_addRule_17 : decode cX6_addRule 17 = .ok (.iconst 1, 1) := by decide +kernel
theorem dX6_addRule_18 : decode cX6_addRule 18 = .ok (.goto 43, 3) := by decide +kernel
theorem dX6_addRule_21 : decode cX6_addRule 21 = .ok (.iload 4, 2) := by decide +kernel
theorem dX6_addRule_23 : decode cX6_addRule 23 = .ok (.iconst 0, 1) := by decide +kernel
theorem dX6_addRule_24 : decode cX6_addRule 24 = .ok (.bipush 40, 2) := by decide +kernel
theorem dX6_addRule_26 : decode cX6_addRule 26 = .ok (.invokestatic 103, 3) := by decide +kernel
theorem dX6_addRule_29 : decode cX6_addRule 29 = .ok (.ifCond .eq 14, 3) := by decide +kernel
theorem dX6_addRule_32 : decode cX6_addRule 32 = .ok (.iload 5, 2) := by decide +kernel
theorem dX6_addRule_34 : decode cX6_addRule 34 = .ok (.iconst 0, 1) := by decide +kernel
theorem dX6_addRule_35 : decode cX6_addRule 35 = .ok (.bipush 10, 2) := by decide +kernel
theorem dX6_addRule_37 : decode cX6_addRule 37 = .ok (.invokestatic 103, 3) := by decide +kernel
theorem dX6_addRule_40 : decode cX6_addRule 40 = .ok (.ifCond .ne 7, 3) := by decide +kernel
theorem dX6_addRule_43 : decode cX6_addRule 43 = .ok (.iconst 2, 1) := by decide +kernel
theorem dX6_addRule_44 : decode cX6_addRule 44 = .ok (.goto 17, 3) := by decide +kernel
theorem dX6_addRule_47 : decode cX6_addRule 47 = .ok (.aload_n 0, 1) := by decide +kernel
theorem dX6_addRule_48 : decode cX6_addRule 48 = .ok (.getfield 111, 3) := by decide +kernel
theorem dX6_addRule_51 : decode cX6_addRule 51 = .ok (.bipush 12, 2) := by decide +kernel
theorem dX6_addRule_53 : decode cX6_addRule 53 = .ok (.if_icmp .ne 7, 3) := by decide +kernel
theorem dX6_addRule_56 : decode cX6_addRule 56 = .ok (.iconst 3, 1) := by decide +kernel
theorem dX6_addRule_57 : decode cX6_addRule 57 = .ok (.goto 4, 3) := by decide +kernel
theorem dX6_addRule_60 : decode cX6_addRule 60 = .ok (.iconst 0, 1) := by decide +kernel
theorem dX6_addRule_61 : decode cX6_addRule 61 = .ok (.invokevirtual 114, 3) := by decide +kernel
theorem dX6_addRule_64 : decode cX6_addRule 64 = .ok (.ifCond .eq 5, 3) := by decide +kernel
theorem dX6_addRule_67 : decode cX6_addRule 67 = .ok (.iconst 0, 1) := by decide +kernel
theorem dX6_addRule_68 : decode cX6_addRule 68 = .ok (.ireturn, 1) := by decide +kernel
theorem dX6_addRule_69 : decode cX6_addRule 69 = .ok (.aload_n 0, 1) := by decide +kernel
theorem dX6_addRule_70 : decode cX6_addRule 70 = .ok (.getfield 49, 3) := by decide +kernel
theorem dX6_addRule_73 : decode cX6_addRule 73 = .ok (.aload_n 0, 1) := by decide +kernel
theorem dX6_addRule_74 : decode cX6_addRule 74 = .ok (.getfield 111, 3) := by decide +kernel
theorem dX6_addRule_77 : decode cX6_addRule 77 = .ok (.iload_n 1, 1) := by decide +kernel
theorem dX6_addRule_78 : decode cX6_addRule 78 = .ok (.iastore, 1) := by decide +kernel
theorem dX6_addRule_79 : decode cX6_addRule 79 = .ok (.aload_n 0, 1) := by decide +kernel
theorem dX6_addRule_80 : decode cX6_addRule 80 = .ok (.getfield 52, 3) := by decide +kernel
theorem dX6_addRule_83 : decode cX6_addRule 83 = .ok (.aload_n 0, 1) := by decide +kernel
theorem dX6_addRule_84 : decode cX6_addRule 84 = .ok (.getfield 111, 3) := by decide +kernel
theorem dX6_addRule_87 : decode cX6_addRule 87 = .ok (.iload_n 2, 1) := by decide +kernel
theorem dX6_addRule_88 : decode cX6_addRule 88 = .ok (.iastore, 1) := by decide +kernel
theorem dX6_addRule_89 : decode cX6_addRule 89 = .ok (.aload_n 0, 1) := by decide +kernel
theorem dX6_addRule_90 : decode cX6_addRule 90 = .ok (.getfield 55, 3) := by decide +kernel
theorem dX6_addRule_93 : decode cX6_addRule 93 = .ok (.aload_n 0, 1) := by decide +kernel
theorem dX6_addRule_94 : decode cX6_addRule 94 = .ok (.getfield 111, 3) := by decide +kernel
theorem dX6_addRule_97 : decode cX6_addRule 97 = .ok (.iload_n 3, 1) := by decide +kernel
theorem dX6_addRule_98 : decode cX6_addRule 98 = .ok (.bastore, 1) := by decide +kernel
theorem dX6_addRule_99 : decode cX6_addRule 99 = .ok (.aload_n 0, 1) := by decide +kernel
theorem dX6_addRule_100 : decode cX6_addRule 100 = .ok (.getfield 59, 3) := by decide +kernel
theorem dX6_addRule_103 : decode cX6_addRule 103 = .ok (.aload_n 0, 1) := by decide +kernel
theorem dX6_addRule_104 : decode cX6_addRule 104 = .ok (.getfield 111, 3) := by decide +kernel
theorem dX6_addRule_107 : decode cX6_addRule 107 = .ok (.iload 4, 2) := by decide +kernel
theorem dX6_addRule_109 : decode cX6_addRule 109 = .ok (.iastore, 1) := by decide +kernel
theorem dX6_addRule_110 : decode cX6_addRule 110 = .ok (.aload_n 0, 1) := by decide +kernel
theorem dX6_addRule_111 : decode cX6_addRule 111 = .ok (.getfield 62, 3) := by decide +kernel
theorem dX6_addRule_114 : decode cX6_addRule 114 = .ok (.aload_n 0, 1) := by decide +kernel
theorem dX6_addRule_115 : decode cX6_addRule 115 = .ok (.getfield 111, 3) := by decide +kernel
theorem dX6_addRule_118 : decode cX6_addRule 118 = .ok (.iload 5, 2) := by decide +kernel
theorem dX6_addRule_120 : decode cX6_addRule 120 = .ok (.iastore, 1) := by decide +kernel
theorem dX6_addRule_121 : decode cX6_addRule 121 = .ok (.aload_n 0, 1) := by decide +kernel
theorem dX6_addRule_122 : decode cX6_addRule 122 = .ok (.dup, 1) := by decide +kernel
theorem dX6_addRule_123 : decode cX6_addRule 123 = .ok (.getfield 111, 3) := by decide +kernel
theorem dX6_addRule_126 : decode cX6_addRule 126 = .ok (.iconst 1, 1) := by decide +kernel
theorem dX6_addRule_127 : decode cX6_addRule 127 = .ok (.iadd, 1) := by decide +kernel
theorem dX6_addRule_128 : decode cX6_addRule 128 = .ok (.putfield 111, 3) := by decide +kernel
theorem dX6_addRule_131 : decode cX6_addRule 131 = .ok (.aload_n 0, 1) := by decide +kernel
theorem dX6_addRule_132 : decode cX6_addRule 132 = .ok (.getfield 111, 3) := by decide +kernel
theorem dX6_addRule_135 : decode cX6_addRule 135 = .ok (.ireturn, 1) := by decide +kernel
theorem dX6_removeRule_0 : decode cX6_removeRule 0 = .ok (.aload_n 0, 1) := by decide +kernel
theorem dX6_removeRule_1 : decode cX6_removeRule 1 = .ok (.iload_n 1, 1) := by decide +kernel
theorem dX6_removeRule_2 : decode cX6_removeRule 2 = .ok (.invokevirtual 130, 3) := by decide +kernel
theorem dX6_removeRule_5 : decode cX6_removeRule 5 = .ok (.ifCond .eq 5, 3) := by decide +kernel
theorem dX6_removeRule_8 : decode cX6_removeRule 8 = .ok (.iconst 0, 1) := by decide +kernel
theorem dX6_removeRule_9 : decode cX6_removeRule 9 = .ok (.ireturn, 1) := by decide +kernel
theorem dX6_removeRule_10 : decode cX6_removeRule 10 = .ok (.aload_n 0, 1) := by decide +kernel
theorem dX6_removeRule_11 : decode cX6_removeRule 11 = .ok (.dup, 1) := by decide +kernel
theorem dX6_removeRule_12 : decode cX6_removeRule 12 = .ok (.getfield 111, 3) := by decide +kernel
theorem dX6_removeRule_15 : decode cX6_removeRule 15 = .ok (.iconst 1, 1) := by decide +kernel
theorem dX6_removeRule_16 : decode cX6_removeRule 16 = .ok (.isub, 1) := by decide +kernel
theorem dX6_removeRule_17 : decode cX6_removeRule 17 = .ok (.putfield 111, 3) := by decide +kernel
theorem dX6_removeRule_20 : decode cX6_removeRule 20 = .ok (.iload_n 1, 1) := by decide +kernel
theorem dX6_removeRule_21 : decode cX6_removeRule 21 = .ok (.istore_n 2, 1) := by decide +kernel
theorem dX6_removeRule_22 : decode cX6_removeRule 22 = .ok (.iload_n 2, 1) := by decide +kernel
theorem dX6_removeRule_23 : decode cX6_removeRule 23 = .ok (.aload_n 0, 1) := by decide +kernel
theorem dX6_removeRule_24 : decode cX6_removeRule 24 = .ok (.getfield 111, 3) := by decide +kernel
theorem dX6_removeRule_27 : decode cX6_removeRule 27 = .ok (.if_icmp .ge 79, 3) := by decide +kernel
theorem dX6_removeRule_30 : decode cX6_removeRule 30 = .ok (.aload_n 0, 1) := by decide +kernel
theorem dX6_removeRule_31 : decode cX6_removeRule 31 = .ok (.getfield 49, 3) := by decide +kernel
theorem dX6_removeRule_34 : decode cX6_removeRule 34 = .ok (.iload_n 2, 1) := by decide +kernel
theorem dX6_removeRule_35 : decode cX6_removeRule 35 = .ok (.aload_n 0, 1) := by decide +kernel
theorem dX6_removeRule_36 : decode cX6_removeRule 36 = .ok (.getfield 49, 3) := by decide +kernel
theorem dX6_removeRule_39 : decode cX6_removeRule 39 = .ok (.iload_n 2, 1) := by decide +kernel
theorem dX6_removeRule_40 : decode cX6_removeRule 40 = .ok (.iconst 1, 1) := by decide +kernel
theorem dX6_removeRule_41 : decode cX6_removeRule 41 = .ok (.iadd, 1) := by decide +kernel
theorem dX6_removeRule_42 : decode cX6_removeRule 42 = .ok (.iaload, 1) := by decide +kernel
theorem dX6_removeRule_43 : decode cX6_removeRule 43 = .ok (.iastore, 1) := by decide +kernel
theorem dX6_removeRule_44 : decode cX6_removeRule 44 = .ok (.aload_n 0, 1) := by decide +kernel
theorem dX6_removeRule_45 : decode cX6_removeRule 45 = .ok (.getfield 52, 3) := by decide +kernel
theorem dX6_removeRule_48 : decode cX6_removeRule 48 = .ok (.iload_n 2, 1) := by decide +kernel
theorem dX6_removeRule_49 : decode cX6_removeRule 49 = .ok (.aload_n 0, 1) := by decide +kernel
theorem dX6_removeRule_50 : decode cX6_removeRule 50 = .ok (.getfield 52, 3) := by decide +kernel
theorem dX6_removeRule_53 : decode cX6_removeRule 53 = .ok (.iload_n 2, 1) := by decide +kernel
theorem dX6_removeRule_54 : decode cX6_removeRule 54 = .ok (.iconst 1, 1) := by decide +kernel
theorem dX6_removeRule_55 : decode cX6_removeRule 55 = .ok (.iadd, 1) := by decide +kernel
theorem dX6_removeRule_56 : decode cX6_removeRule 56 = .ok (.iaload, 1) := by decide +kernel
theorem dX6_removeRule_57 : decode cX6_removeRule 57 = .ok (.iastore, 1) := by decide +kernel
theorem dX6_removeRule_58 : decode cX6_removeRule 58 = .ok (.aload_n 0, 1) := by decide +kernel
theorem dX6_removeRule_59 : decode cX6_removeRule 59 = .ok (.getfield 55, 3) := by decide +kernel
theorem dX6_removeRule_62 : decode cX6_removeRule 62 = .ok (.iload_n 2, 1) := by decide +kernel
theorem dX6_removeRule_63 : decode cX6_removeRule 63 = .ok (.aload_n 0, 1) := by decide +kernel
theorem dX6_removeRule_64 : decode cX6_removeRule 64 = .ok (.getfield 55, 3) := by decide +kernel
theorem dX6_removeRule_67 : decode cX6_removeRule 67 = .ok (.iload_n 2, 1) := by decide +kernel
theorem dX6_removeRule_68 : decode cX6_removeRule 68 = .ok (.iconst 1, 1) := by decide +kernel
theorem dX6_removeRule_69 : decode cX6_removeRule 69 = .ok (.iadd, 1) := by decide +kernel
theorem dX6_removeRule_70 : decode cX6_removeRule 70 = .ok (.baload, 1) := by decide +kernel
theorem dX6_removeRule_71 : decode cX6_removeRule 71 = .ok (.bastore, 1) := by decide +kernel
theorem dX6_removeRule_72 : decode cX6_removeRule 72 = .ok (.aload_n 0, 1) := by decide +kernel
theorem dX6_removeRule_73 : decode cX6_removeRule 73 = .ok (.getfield 59, 3) := by decide +kernel
theorem dX6_removeRule_76 : decode cX6_removeRule 76 = .ok (.iload_n 2, 1) := by decide +kernel
theorem dX6_removeRule_77 : decode cX6_removeRule 77 = .ok (.aload_n 0, 1) := by decide +kernel
theorem dX6_removeRule_78 : decode cX6_removeRule 78 = .ok (.getfield 59, 3) := by decide +kernel
theorem dX6_removeRule_81 : decode cX6_removeRule 81 = .ok (.iload_n 2, 1) := by decide +kernel
theorem dX6_removeRule_82 : decode cX6_removeRule 82 = .ok (.iconst 1, 1) := by decide +kernel
theorem dX6_removeRule_83 : decode cX6_removeRule 83 = .ok (.iadd, 1) := by decide +kernel
theorem dX6_removeRule_84 : decode cX6_removeRule 84 = .ok (.iaload, 1) := by decide +kernel
theorem dX6_removeRule_85 : decode cX6_removeRule 85 = .ok (.iastore, 1) := by decide +kernel
theorem dX6_removeRule_86 : decode cX6_removeRule 86 = .ok (.aload_n 0, 1) := by decide +kernel
theorem dX6_removeRule_87 : decode cX6_removeRule 87 = .ok (.getfield 62, 3) := by decide +kernel
theorem dX6_removeRule_90 : decode cX6_removeRule 90 = .ok (.iload_n 2, 1) := by decide +kernel
theorem dX6_removeRule_91 : decode cX6_removeRule 91 = .ok (.aload_n 0, 1) := by decide +kernel
theorem dX6_removeRule_92 : decode cX6_removeRule 92 = .ok (.getfield 62, 3) := by decide +kernel
theorem dX6_removeRule_95 : decode cX6_removeRule 95 = .ok (.iload_n 2, 1) := by decide +kernel
theorem dX6_removeRule_96 : decode cX6_removeRule 96 = .ok (.iconst 1, 1) := by decide +kernel
theorem dX6_removeRule_97 : decode cX6_removeRule 97 = .ok (.iadd, 1) := by decide +kernel
theorem dX6_removeRule_98 : decode cX6_removeRule 98 = .ok (.iaload, 1) := by decide +kernel
theorem dX6_removeRule_99 : decode cX6_removeRule 99 = .ok (.iastore, 1) := by decide +kernel
theorem dX6_removeRule_100 : decode cX6_removeRule 100 = .ok (.iinc 2 1, 3) := by decide +kernel
theorem dX6_removeRule_103 : decode cX6_removeRule 103 = .ok (.goto (-81), 3) := by decide +kernel
theorem dX6_removeRule_106 : decode cX6_removeRule 106 = .ok (.aload_n 0, 1) := by decide +kernel
theorem dX6_removeRule_107 : decode cX6_removeRule 107 = .ok (.getfield 111, 3) := by decide +kernel
theorem dX6_removeRule_110 : decode cX6_removeRule 110 = .ok (.ireturn, 1) := by decide +kernel
theorem dX6_ruleCount_0 : decode cX6_ruleCount 0 = .ok (.aload_n 0, 1) := by decide +kernel
theorem dX6_ruleCount_1 : decode cX6_ruleCount 1 = .ok (.aload_n 0, 1) := by decide +kernel
theorem dX6_ruleCount_2 : decode cX6_ruleCount 2 = .ok (.getfield 111, 3) := by decide +kernel
theorem dX6_ruleCount_5 : decode cX6_ruleCount 5 = .ok (.invokevirtual 123, 3) := by decide +kernel
theorem dX6_ruleCount_8 : decode cX6_ruleCount 8 = .ok (.ireturn, 1) := by decide +kernel
theorem dX6_isTrue_0 : decode cX6_isTrue 0 = .ok (.aload_n 2, 1) := by decide +kernel
theorem dX6_isTrue_1 : decode cX6_isTrue 1 = .ok (.aload_n 0, 1) := by decide +kernel
theorem dX6_isTrue_2 : decode cX6_isTrue 2 = .ok (.getfield 52, 3) := by decide +kernel
theorem dX6_isTrue_5 : decode cX6_isTrue 5 = .ok (.iload_n 1, 1) := by decide +kernel
theorem dX6_isTrue_6 : decode cX6_isTrue 6 = .ok (.iaload, 1) := by decide +kernel
theorem dX6_isTrue_7 : decode cX6_isTrue 7 = .ok (.iaload, 1) := by decide +kernel
theorem dX6_isTrue_8 : decode cX6_isTrue 8 = .ok (.aload_n 0, 1) := by decide +kernel
theorem dX6_isTrue_9 : decode cX6_isTrue 9 = .ok (.getfield 7, 3) := by decide +kernel
theorem dX6_isTrue_12 : decode cX6_isTrue 12 = .ok (.aload_n 0, 1) := by decide +kernel
theorem dX6_isTrue_13 : decode cX6_isTrue 13 = .ok (.getfield 52, 3) := by decide +kernel
theorem dX6_isTrue_16 : decode cX6_isTrue 16 = .ok (.iload_n 1, 1) := by decide +kernel
theorem dX6_isTrue_17 : decode cX6_isTrue 17 = .ok (.iaload, 1) := by decide +kernel
theorem dX6_isTrue_18 : decode cX6_isTrue 18 = .ok (.iaload, 1) := by decide +kernel
theorem dX6_isTrue_19 : decode cX6_isTrue 19 = .ok (.idiv, 1) := by decide +kernel
theorem dX6_isTrue_20 : decode cX6_isTrue 20 = .ok (.aload_n 0, 1) := by decide +kernel
theorem dX6_isTrue_21 : decode cX6_isTrue 21 = .ok (.getfield 59, 3) := by decide +kernel
theorem dX6_isTrue_24 : decode cX6_isTrue 24 = .ok (.iload_n 1, 1) := by decide +kernel
theorem dX6_isTrue_25 : decode cX6_isTrue 25 = .ok (.iaload, 1) := by decide +kernel
theorem dX6_isTrue_26 : decode cX6_isTrue 26 = .ok (.if_icmp .lt 7, 3) := by decide +kernel
theorem dX6_isTrue_29 : decode cX6_isTrue 29 = .ok (.iconst 1, 1) := by decide +kernel
theorem dX6_isTrue_30 : decode cX6_isTrue 30 = .ok (.goto 4, 3) := by decide +kernel
theorem dX6_isTrue_33 : decode cX6_isTrue 33 = .ok (.iconst 0, 1) := by decide +kernel
theorem dX6_isTrue_34 : decode cX6_isTrue 34 = .ok (.aload_n 0, 1) := by decide +kernel
theorem dX6_isTrue_35 : decode cX6_isTrue 35 = .ok (.getfield 55, 3) := by decide +kernel
theorem dX6_isTrue_38 : decode cX6_isTrue 38 = .ok (.iload_n 1, 1) := by decide +kernel
theorem dX6_isTrue_39 : decode cX6_isTrue 39 = .ok (.baload, 1) := by decide +kernel
theorem dX6_isTrue_40 : decode cX6_isTrue 40 = .ok (.if_icmp .ne 7, 3) := by decide +kernel
theorem dX6_isTrue_43 : decode cX6_isTrue 43 = .ok (.iconst 1, 1) := by decide +kernel
theorem dX6_isTrue_44 : decode cX6_isTrue 44 = .ok (.goto 4, 3) := by decide +kernel
theorem dX6_isTrue_47 : decode cX6_isTrue 47 = .ok (.iconst 0, 1) := by decide +kernel
theorem dX6_isTrue_48 : decode cX6_isTrue 48 = .ok (.ireturn, 1) := by decide +kernel
theorem dX6_doesHold_0 : decode cX6_doesHold 0 = .ok (.aload_n 0, 1) := by decide +kernel
theorem dX6_doesHold_1 : decode cX6_doesHold 1 = .ok (.iload_n 1, 1) := by decide +kernel
theorem dX6_doesHold_2 : decode cX6_doesHold 2 = .ok (.invokevirtual 130, 3) := by decide +kernel
theorem dX6_doesHold_5 : decode cX6_doesHold 5 = .ok (.ifCond .ne 19, 3) := by decide +kernel
theorem dX6_doesHold_8 : decode cX6_doesHold 8 = .ok (.aload_n 0, 1) := by decide +kernel
theorem dX6_doesHold_9 : decode cX6_doesHold 9 = .ok (.iload_n 1, 1) := by decide +kernel
theorem dX6_doesHold_10 : decode cX6_doesHold 10 = .ok (.aload_n 0, 1) := by decide +kernel
theorem dX6_doesHold_11 : decode cX6_doesHold 11 = .ok (.getfield 34, 3) := by decide +kernel
theorem dX6_doesHold_14 : decode cX6_doesHold 14 = .ok (.invokevirtual 133, 3) := by decide +kernel
theorem dX6_doesHold_17 : decode cX6_doesHold 17 = .ok (.ifCond .eq 7, 3) := by decide +kernel
theorem dX6_doesHold_20 : decode cX6_doesHold 20 = .ok (.iconst 1, 1) := by decide +kernel
theorem dX6_doesHold_21 : decode cX6_doesHold 21 = .ok (.goto 4, 3) := by decide +kernel
theorem dX6_doesHold_24 : decode cX6_doesHold 24 = .ok (.iconst 0, 1) := by decide +kernel
theorem dX6_doesHold_25 : decode cX6_doesHold 25 = .ok (.ireturn, 1) := by decide +kernel
theorem dX6_opening_0 : decode cX6_opening 0 = .ok (.aload_n 0, 1) := by decide +kernel
theorem dX6_opening_1 : decode cX6_opening 1 = .ok (.getfield 22, 3) := by decide +kernel
theorem dX6_opening_4 : decode cX6_opening 4 = .ok (.iload_n 1, 1) := by decide +kernel
theorem dX6_opening_5 : decode cX6_opening 5 = .ok (.iaload, 1) := by decide +kernel
theorem dX6_opening_6 : decode cX6_opening 6 = .ok (.istore_n 3, 1) := by decide +kernel
theorem dX6_opening_7 : decode cX6_opening 7 = .ok (.iconst 0, 1) := by decide +kernel
theorem dX6_opening_8 : decode cX6_opening 8 = .ok (.istore 4, 2) := by decide +kernel
theorem dX6_opening_10 : decode cX6_opening 10 = .ok (.iload 4, 2) := by decide +kernel
theorem dX6_opening_12 : decode cX6_opening 12 = .ok (.aload_n 0, 1) := by decide +kernel
theorem dX6_opening_13 : decode cX6_opening 13 = .ok (.getfield 111, 3) := by decide +kernel
theorem dX6_opening_16 : decode cX6_opening 16 = .ok (.if_icmp .ge 38, 3) := by decide +kernel
theorem dX6_opening_19 : decode cX6_opening 19 = .ok (.aload_n 0, 1) := by decide +kernel
theorem dX6_opening_20 : decode cX6_opening 20 = .ok (.getfield 49, 3) := by decide +kernel
theorem dX6_opening_23 : decode cX6_opening 23 = .ok (.iload 4, 2) := by decide +kernel
theorem dX6_opening_25 : decode cX6_opening 25 = .ok (.iaload, 1) := by decide +kernel
theorem dX6_opening_26 : decode cX6_opening 26 = .ok (.iload_n 1, 1) := by decide +kernel
theorem dX6_opening_27 : decode cX6_opening 27 = .ok (.if_icmp .ne 21, 3) := by decide +kernel
theorem dX6_opening_30 : decode cX6_opening 30 = .ok (.aload_n 0, 1) := by decide +kernel
theorem dX6_opening_31 : decode cX6_opening 31 = .ok (.iload 4, 2) := by decide +kernel
theorem dX6_opening_33 : decode cX6_opening 33 = .ok (.aload_n 2, 1) := by decide +kernel
theorem dX6_opening_34 : decode cX6_opening 34 = .ok (.invokevirtual 133, 3) := by decide +kernel
theorem dX6_opening_37 : decode cX6_opening 37 = .ok (.ifCond .eq 11, 3) := by decide +kernel
theorem dX6_opening_40 : decode cX6_opening 40 = .ok (.aload_n 0, 1) := by decide +kernel
theorem dX6_opening_41 : decode cX6_opening 41 = .ok (.getfield 62, 3) := by decide +kernel
theorem dX6_opening_44 : decode cX6_opening 44 = .ok (.iload 4, 2) := by decide +kernel
theorem dX6_opening_46 : decode cX6_opening 46 = .ok (.iaload, 1) := by decide +kernel
theorem dX6_opening_47 : decode cX6_opening 47 = .ok (.istore_n 3, 1) := by decide +kernel
theorem dX6_opening_48 : decode cX6_opening 48 = .ok (.iinc 4 1, 3) := by decide +kernel
theorem dX6_opening_51 : decode cX6_opening 51 = .ok (.goto (-41), 3) := by decide +kernel
theorem dX6_opening_54 : decode cX6_opening 54 = .ok (.iload_n 1, 1) := by decide +kernel
theorem dX6_opening_55 : decode cX6_opening 55 = .ok (.aload_n 0, 1) := by decide +kernel
theorem dX6_opening_56 : decode cX6_opening 56 = .ok (.getfield 89, 3) := by decide +kernel
theorem dX6_opening_59 : decode cX6_opening 59 = .ok (.if_icmp .ne 10, 3) := by decide +kernel
theorem dX6_opening_62 : decode cX6_opening 62 = .ok (.aload_n 0, 1) := by decide +kernel
theorem dX6_opening_63 : decode cX6_opening 63 = .ok (.getfield 137, 3) := by decide +kernel
theorem dX6_opening_66 : decode cX6_opening 66 = .ok (.goto 4, 3) := by decide +kernel
theorem dX6_opening_69 : decode cX6_opening 69 = .ok (.iload_n 3, 1) := by decide +kernel
theorem dX6_opening_70 : decode cX6_opening 70 = .ok (.ireturn, 1) := by decide +kernel
theorem dX6_openingNow_0 : decode cX6_openingNow 0 = .ok (.aload_n 0, 1) := by decide +kernel
theorem dX6_openingNow_1 : decode cX6_openingNow 1 = .ok (.aload_n 0, 1) := by decide +kernel
theorem dX6_openingNow_2 : decode cX6_openingNow 2 = .ok (.iload_n 1, 1) := by decide +kernel
theorem dX6_openingNow_3 : decode cX6_openingNow 3 = .ok (.invokevirtual 107, 3) := by decide +kernel
theorem dX6_openingNow_6 : decode cX6_openingNow 6 = .ok (.ifCond .eq 7, 3) := by decide +kernel
theorem dX6_openingNow_9 : decode cX6_openingNow 9 = .ok (.iconst 1, 1) := by decide +kernel
theorem dX6_openingNow_10 : decode cX6_openingNow 10 = .ok (.goto 4, 3) := by decide +kernel
theorem dX6_openingNow_13 : decode cX6_openingNow 13 = .ok (.iconst 0, 1) := by decide +kernel
theorem dX6_openingNow_14 : decode cX6_openingNow 14 = .ok (.invokevirtual 114, 3) := by decide +kernel
theorem dX6_openingNow_17 : decode cX6_openingNow 17 = .ok (.ifCond .eq 7, 3) := by decide +kernel
theorem dX6_openingNow_20 : decode cX6_openingNow 20 = .ok (.iconst 0, 1) := by decide +kernel
theorem dX6_openingNow_21 : decode cX6_openingNow 21 = .ok (.goto 12, 3) := by decide +kernel
theorem dX6_openingNow_24 : decode cX6_openingNow 24 = .ok (.aload_n 0, 1) := by decide +kernel
theorem dX6_openingNow_25 : decode cX6_openingNow 25 = .ok (.iload_n 1, 1) := by decide +kernel
theorem dX6_openingNow_26 : decode cX6_openingNow 26 = .ok (.aload_n 0, 1) := by decide +kernel
theorem dX6_openingNow_27 : decode cX6_openingNow 27 = .ok (.getfield 34, 3) := by decide +kernel
theorem dX6_openingNow_30 : decode cX6_openingNow 30 = .ok (.invokevirtual 140, 3) := by decide +kernel
theorem dX6_openingNow_33 : decode cX6_openingNow 33 = .ok (.ireturn, 1) := by decide +kernel
theorem dX6_setRain_0 : decode cX6_setRain 0 = .ok (.aload_n 0, 1) := by decide +kernel
theorem dX6_setRain_1 : decode cX6_setRain 1 = .ok (.aload_n 0, 1) := by decide +kernel
theorem dX6_setRain_2 : decode cX6_setRain 2 = .ok (.iload_n 1, 1) := by decide +kernel
theorem dX6_setRain_3 : decode cX6_setRain 3 = .ok (.invokevirtual 107, 3) := by decide +kernel
theorem dX6_setRain_6 : decode cX6_setRain 6 = .ok (.ifCond .eq 7, 3) := by decide +kernel
theorem dX6_setRain_9 : decode cX6_setRain 9 = .ok (.iconst 1, 1) := by decide +kernel
theorem dX6_setRain_10 : decode cX6_setRain 10 = .ok (.goto 19, 3) := by decide +kernel
theorem dX6_setRain_13 : decode cX6_setRain 13 = .ok (.iload_n 2, 1) := by decide +kernel
theorem dX6_setRain_14 : decode cX6_setRain 14 = .ok (.iconst 0, 1) := by decide +kernel
theorem dX6_setRain_15 : decode cX6_setRain 15 = .ok (.sipush 500, 3) := by decide +kernel
theorem dX6_setRain_18 : decode cX6_setRain 18 = .ok (.invokestatic 103, 3) := by decide +kernel
theorem dX6_setRain_21 : decode cX6_setRain 21 = .ok (.ifCond .eq 7, 3) := by decide +kernel
theorem dX6_setRain_24 : decode cX6_setRain 24 = .ok (.iconst 0, 1) := by decide +kernel
theorem dX6_setRain_25 : decode cX6_setRain 25 = .ok (.goto 4, 3) := by decide +kernel
theorem dX6_setRain_28 : decode cX6_setRain 28 = .ok (.iconst 2, 1) := by decide +kernel
theorem dX6_setRain_29 : decode cX6_setRain 29 = .ok (.invokevirtual 114, 3) := by decide +kernel
theorem dX6_setRain_32 : decode cX6_setRain 32 = .ok (.ifCond .eq 5, 3) := by decide +kernel
theorem dX6_setRain_35 : decode cX6_setRain 35 = .ok (.iconst 0, 1) := by decide +kernel
theorem dX6_setRain_36 : decode cX6_setRain 36 = .ok (.ireturn, 1) := by decide +kernel
theorem dX6_setRain_37 : decode cX6_setRain 37 = .ok (.aload_n 0, 1) := by decide +kernel
theorem dX6_setRain_38 : decode cX6_setRain 38 = .ok (.getfield 25, 3) := by decide +kernel
theorem dX6_setRain_41 : decode cX6_setRain 41 = .ok (.iload_n 1, 1) := by decide +kernel
theorem dX6_setRain_42 : decode cX6_setRain 42 = .ok (.iaload, 1) := by decide +kernel
theorem dX6_setRain_43 : decode cX6_setRain 43 = .ok (.istore_n 3, 1) := by decide +kernel
theorem dX6_setRain_44 : decode cX6_setRain 44 = .ok (.aload_n 0, 1) := by decide +kernel
theorem dX6_setRain_45 : decode cX6_setRain 45 = .ok (.getfield 25, 3) := by decide +kernel
theorem dX6_setRain_48 : decode cX6_setRain 48 = .ok (.iload_n 1, 1) := by decide +kernel
theorem dX6_setRain_49 : decode cX6_setRain 49 = .ok (.iload_n 2, 1) := by decide +kernel
theorem dX6_setRain_50 : decode cX6_setRain 50 = .ok (.iastore, 1) := by decide +kernel
theorem dX6_setRain_51 : decode cX6_setRain 51 = .ok (.iload_n 3, 1) := by decide +kernel
theorem dX6_setRain_52 : decode cX6_setRain 52 = .ok (.ireturn, 1) := by decide +kernel
theorem dX6_flows_0 : decode cX6_flows 0 = .ok (.iconst 0, 1) := by decide +kernel
theorem dX6_flows_1 : decode cX6_flows 1 = .ok (.istore_n 3, 1) := by decide +kernel
theorem dX6_flows_2 : decode cX6_flows 2 = .ok (.iload_n 3, 1) := by decide +kernel
theorem dX6_flows_3 : decode cX6_flows 3 = .ok (.aload_n 0, 1) := by decide +kernel
theorem dX6_flows_4 : decode cX6_flows 4 = .ok (.getfield 100, 3) := by decide +kernel
theorem dX6_flows_7 : decode cX6_flows 7 = .ok (.if_icmp .ge 34, 3) := by decide +kernel
theorem dX6_flows_10 : decode cX6_flows 10 = .ok (.aload_n 0, 1) := by decide +kernel
theorem dX6_flows_11 : decode cX6_flows 11 = .ok (.getfield 46, 3) := by decide +kernel
theorem dX6_flows_14 : decode cX6_flows 14 = .ok (.iload_n 3, 1) := by decide +kernel
theorem dX6_flows_15 : decode cX6_flows 15 = .ok (.aload_n 0, 1) := by decide +kernel
theorem dX6_flows_16 : decode cX6_flows 16 = .ok (.iload_n 3, 1) := by decide +kernel
theorem dX6_flows_17 : decode cX6_flows 17 = .ok (.aload_n 1, 1) := by decide +kernel
theorem dX6_flows_18 : decode cX6_flows 18 = .ok (.invokevirtual 140, 3) := by decide +kernel
theorem dX6_flows_21 : decode cX6_flows 21 = .ok (.aload_n 0, 1) := by decide +kernel
theorem dX6_flows_22 : decode cX6_flows 22 = .ok (.getfield 16, 3) := by decide +kernel
theorem dX6_flows_25 : decode cX6_flows 25 = .ok (.iload_n 3, 1) := by decide +kernel
theorem dX6_flows_26 : decode cX6_flows 26 = .ok (.iaload, 1) := by decide +kernel
theorem dX6_flows_27 : decode cX6_flows 27 = .ok (.imul, 1) := by decide +kernel
theorem dX6_flows_28 : decode cX6_flows 28 = .ok (.aload_n 1, 1) := by decide +kernel
theorem dX6_flows_29 : decode cX6_flows 29 = .ok (.iload_n 3, 1) := by decide +kernel
theorem dX6_flows_30 : decode cX6_flows 30 = .ok (.iaload, 1) := by decide +kernel
theorem dX6_flows_31 : decode cX6_flows 31 = .ok (.invokestatic 144, 3) := by decide +kernel
theorem dX6_flows_34 : decode cX6_flows 34 = .ok (.iastore, 1) := by decide +kernel
theorem dX6_flows_35 : decode cX6_flows 35 = .ok (.iinc 3 1, 3) := by decide +kernel
theorem dX6_flows_38 : decode cX6_flows 38 = .ok (.goto (-36), 3) := by decide +kernel
theorem dX6_flows_41 : decode cX6_flows 41 = .ok (.iconst 0, 1) := by decide +kernel
theorem dX6_flows_42 : decode cX6_flows 42 = .ok (.istore_n 3, 1) := by decide +kernel
theorem dX6_flows_43 : decode cX6_flows 43 = .ok (.iload_n 3, 1) := by decide +kernel
theorem dX6_flows_44 : decode cX6_flows 44 = .ok (.aload_n 0, 1) := by decide +kernel
theorem dX6_flows_45 : decode cX6_flows 45 = .ok (.getfield 100, 3) := by decide +kernel
theorem dX6_flows_48 : decode cX6_flows 48 = .ok (.if_icmp .ge 42, 3) := by decide +kernel
theorem dX6_flows_51 : decode cX6_flows 51 = .ok (.aload_n 1, 1) := by decide +kernel
theorem dX6_flows_52 : decode cX6_flows 52 = .ok (.iload_n 3, 1) := by decide +kernel
theorem dX6_flows_53 : decode cX6_flows 53 = .ok (.dup2, 1) := by decide +kernel
theorem dX6_flows_54 : decode cX6_flows 54 = .ok (.iaload, 1) := by decide +kernel
theorem dX6_flows_55 : decode cX6_flows 55 = .ok (.aload_n 0, 1) := by decide +kernel
theorem dX6_flows_56 : decode cX6_flows 56 = .ok (.getfield 46, 3) := by decide +kernel
theorem dX6_flows_59 : decode cX6_flows 59 = .ok (.iload_n 3, 1) := by decide +kernel
theorem dX6_flows_60 : decode cX6_flows 60 = .ok (.iaload, 1) := by decide +kernel
theorem dX6_flows_61 : decode cX6_flows 61 = .ok (.isub, 1) := by decide +kernel
theorem dX6_flows_62 : decode cX6_flows 62 = .ok (.iastore, 1) := by decide +kernel
theorem dX6_flows_63 : decode cX6_flows 63 = .ok (.iload_n 3, 1) := by decide +kernel
theorem dX6_flows_64 : decode cX6_flows 64 = .ok (.ifCond .le 20, 3) := by decide +kernel
theorem dX6_flows_67 : decode cX6_flows 67 = .ok (.aload_n 1, 1) := by decide +kernel
theorem dX6_flows_68 : decode cX6_flows 68 = .ok (.aload_n 0, 1) := by decide +kernel
theorem dX6_flows_69 : decode cX6_flows 69 = .ok (.getfield 19, 3) := by decide +kernel
theorem dX6_flows_72 : decode cX6_flows 72 = .ok (.iload_n 3, 1) := by decide +kernel
theorem dX6_flows_73 : decode cX6_flows 73 = .ok (.iaload, 1) := by decide +kernel
theorem dX6_flows_74 : decode cX6_flows 74 = .ok (.dup2, 1) := by decide +kernel
theorem dX6_flows_75 : decode cX6_flows 75 = .ok (.iaload, 1) := by decide +kernel
theorem dX6_flows_76 : decode cX6_flows 76 = .ok (.aload_n 0, 1) := by decide +kernel
theorem dX6_flows_77 : decode cX6_flows 77 = .ok (.getfield 46, 3) := by decide +kernel
theorem dX6_flows_80 : decode cX6_flows 80 = .ok (.iload_n 3, 1) := by decide +kernel
theorem dX6_flows_81 : decode cX6_flows 81 = .ok (.iaload, 1) := by decide +kernel
theorem dX6_flows_82 : decode cX6_flows 82 = .ok (.iadd, 1) := by decide +kernel
theorem dX6_flows_83 : decode cX6_flows 83 = .ok (.iastore, 1) := by decide +kernel
theorem dX6_flows_84 : decode cX6_flows 84 = .ok (.iinc 3 1, 3) := by decide +kernel
theorem dX6_flows_87 : decode cX6_flows 87 = .ok (.goto (-44), 3) := by decide +kernel
theorem dX6_flows_90 : decode cX6_flows 90 = .ok (.iconst 0, 1) := by decide +kernel
theorem dX6_flows_91 : decode cX6_flows 91 = .ok (.istore_n 3, 1) := by decide +kernel
theorem dX6_flows_92 : decode cX6_flows 92 = .ok (.iload_n 3, 1) := by decide +kernel
theorem dX6_flows_93 : decode cX6_flows 93 = .ok (.aload_n 0, 1) := by decide +kernel
theorem dX6_flows_94 : decode cX6_flows 94 = .ok (.getfield 100, 3) := by decide +kernel
theorem dX6_flows_97 : decode cX6_flows 97 = .ok (.if_icmp .ge 66, 3) := by decide +kernel
theorem dX6_flows_100 : decode cX6_flows 100 = .ok (.aload_n 1, 1) := by decide +kernel
theorem dX6_flows_101 : decode cX6_flows 101 = .ok (.iload_n 3, 1) := by decide +kernel
theorem dX6_flows_102 : decode cX6_flows 102 = .ok (.iaload, 1) := by decide +kernel
theorem dX6_flows_103 : decode cX6_flows 103 = .ok (.aload_n 0, 1) := by decide +kernel
theorem dX6_flows_104 : decode cX6_flows 104 = .ok (.iload_n 3, 1) := by decide +kernel
theorem dX6_flows_105 : decode cX6_flows 105 = .ok (.invokevirtual 127, 3) := by decide +kernel
theorem dX6_flows_108 : decode cX6_flows 108 = .ok (.if_icmp .le 15, 3) := by decide +kernel
theorem dX6_flows_111 : decode cX6_flows 111 = .ok (.aload_n 1, 1) := by decide +kernel
theorem dX6_flows_112 : decode cX6_flows 112 = .ok (.iload_n 3, 1) := by decide +kernel
theorem dX6_flows_113 : decode cX6_flows 113 = .ok (.iaload, 1) := by decide +kernel
theorem dX6_flows_114 : decode cX6_flows 114 = .ok (.aload_n 0, 1) := by decide +kernel
theorem dX6_flows_115 : decode cX6_flows 115 = .ok (.iload_n 3, 1) := by decide +kernel
theorem dX6_flows_116 : decode cX6_flows 116 = .ok (.invokevirtual 127, 3) := by decide +kernel
theorem dX6_flows_119 : decode cX6_flows 119 = .ok (.isub, 1) := by decide +kernel
theorem dX6_flows_120 : decode cX6_flows 120 = .ok (.goto 19, 3) := by decide +kernel
theorem dX6_flows_123 : decode cX6_flows 123 = .ok (.aload_n 2, 1) := by decide +kernel
theorem dX6_flows_124 : decode cX6_flows 124 = .ok (.iload_n 3, 1) := by decide +kernel
theorem dX6_flows_125 : decode cX6_flows 125 = .ok (.iaload, 1) := by decide +kernel
theorem dX6_flows_126 : decode cX6_flows 126 = .ok (.aload_n 0, 1) := by decide +kernel
theorem dX6_flows_127 : decode cX6_flows 127 = .ok (.iload_n 3, 1) := by decide +kernel
theorem dX6_flows_128 : decode cX6_flows 128 = .ok (.invokevirtual 127, 3) := by decide +kernel
theorem dX6_flows_131 : decode cX6_flows 131 = .ok (.aload_n 1, 1) := by decide +kernel
theorem dX6_flows_132 : decode cX6_flows 132 = .ok (.iload_n 3, 1) := by decide +kernel
theorem dX6_flows_133 : decode cX6_flows 133 = .ok (.iaload, 1) := by decide +kernel
theorem dX6_flows_134 : decode cX6_flows 134 = .ok (.isub, 1) := by decide +kernel
theorem dX6_flows_135 : decode cX6_flows 135 = .ok (.invokestatic 144, 3) := by decide +kernel
theorem dX6_flows_138 : decode cX6_flows 138 = .ok (.ineg, 1) := by decide +kernel
theorem dX6_flows_139 : decode cX6_flows 139 = .ok (.istore 4, 2) := by decide +kernel
theorem dX6_flows_141 : decode cX6_flows 141 = .ok (.aload_n 1, 1) := by decide +kernel
theorem dX6_flows_142 : decode cX6_flows 142 = .ok (.iload_n 3, 1) := by decide +kernel
theorem dX6_flows_143 : decode cX6_flows 143 = .ok (.dup2, 1) := by decide +kernel
theorem dX6_flows_144 : decode cX6_flows 144 = .ok (.iaload, 1) := by decide +kernel
theorem dX6_flows_145 : decode cX6_flows 145 = .ok (.iload 4, 2) := by decide +kernel
theorem dX6_flows_147 : decode cX6_flows 147 = .ok (.isub, 1) := by decide +kernel
theorem dX6_flows_148 : decode cX6_flows 148 = .ok (.iastore, 1) := by decide +kernel
theorem dX6_flows_149 : decode cX6_flows 149 = .ok (.aload_n 2, 1) := by decide +kernel
theorem dX6_flows_150 : decode cX6_flows 150 = .ok (.iload_n 3, 1) := by decide +kernel
theorem dX6_flows_151 : decode cX6_flows 151 = .ok (.dup2, 1) := by decide +kernel
theorem dX6_flows_152 : decode cX6_flows 152 = .ok (.iaload, 1) := by decide +kernel
theorem dX6_flows_153 : decode cX6_flows 153 = .ok (.iload 4, 2) := by decide +kernel
theorem dX6_flows_155 : decode cX6_flows 155 = .ok (.iadd, 1) := by decide +kernel
theorem dX6_flows_156 : decode cX6_flows 156 = .ok (.iastore, 1) := by decide +kernel
theorem dX6_flows_157 : decode cX6_flows 157 = .ok (.iinc 3 1, 3) := by decide +kernel
theorem dX6_flows_160 : decode cX6_flows 160 = .ok (.goto (-68), 3) := by decide +kernel
theorem dX6_flows_163 : decode cX6_flows 163 = .ok (.aload_n 0, 1) := by decide +kernel
theorem dX6_flows_164 : decode cX6_flows 164 = .ok (.getfield 46, 3) := by decide +kernel
theorem dX6_flows_167 : decode cX6_flows 167 = .ok (.iconst 0, 1) := by decide +kernel
theorem dX6_flows_168 : decode cX6_flows 168 = .ok (.iaload, 1) := by decide +kernel
theorem dX6_flows_169 : decode cX6_flows 169 = .ok (.ireturn, 1) := by decide +kernel
theorem dX6_pass_0 : decode cX6_pass 0 = .ok (.aload_n 0, 1) := by decide +kernel
theorem dX6_pass_1 : decode cX6_pass 1 = .ok (.iload_n 1, 1) := by decide +kernel
theorem dX6_pass_2 : decode cX6_pass 2 = .ok (.iconst 1, 1) := by decide +kernel
theorem dX6_pass_3 : decode cX6_pass 3 = .ok (.bipush 24, 2) := by decide +kernel
theorem dX6_pass_5 : decode cX6_pass 5 = .ok (.invokestatic 103, 3) := by decide +kernel
theorem dX6_pass_8 : decode cX6_pass 8 = .ok (.ifCond .ne 7, 3) := by decide +kernel
theorem dX6_pass_11 : decode cX6_pass 11 = .ok (.iconst 1, 1) := by decide +kernel
theorem dX6_pass_12 : decode cX6_pass 12 = .ok (.goto 26, 3) := by decide +kernel
theorem dX6_pass_15 : decode cX6_pass 15 = .ok (.aload_n 0, 1) := by decide +kernel
theorem dX6_pass_16 : decode cX6_pass 16 = .ok (.getfield 100, 3) := by decide +kernel
theorem dX6_pass_19 : decode cX6_pass 19 = .ok (.ifCond .eq 14, 3) := by decide +kernel
theorem dX6_pass_22 : decode cX6_pass 22 = .ok (.aload_n 0, 1) := by decide +kernel
theorem dX6_pass_23 : decode cX6_pass 23 = .ok (.getfield 120, 3) := by decide +kernel
theorem dX6_pass_26 : decode cX6_pass 26 = .ok (.iload_n 1, 1) := by decide +kernel
theorem dX6_pass_27 : decode cX6_pass 27 = .ok (.iadd, 1) := by decide +kernel
theorem dX6_pass_28 : decode cX6_pass 28 = .ok (.bipush 60, 2) := by decide +kernel
theorem dX6_pass_30 : decode cX6_pass 30 = .ok (.if_icmp .le 7, 3) := by decide +kernel
theorem dX6_pass_33 : decode cX6_pass 33 = .ok (.iconst 2, 1) := by decide +kernel
theorem dX6_pass_34 : decode cX6_pass 34 = .ok (.goto 4, 3) := by decide +kernel
theorem dX6_pass_37 : decode cX6_pass 37 = .ok (.iconst 0, 1) := by decide +kernel
theorem dX6_pass_38 : decode cX6_pass 38 = .ok (.invokevirtual 114, 3) := by decide +kernel
theorem dX6_pass_41 : decode cX6_pass 41 = .ok (.ifCond .eq 5, 3) := by decide +kernel
theorem dX6_pass_44 : decode cX6_pass 44 = .ok (.iconst 0, 1) := by decide +kernel
theorem dX6_pass_45 : decode cX6_pass 45 = .ok (.ireturn, 1) := by decide +kernel
theorem dX6_pass_46 : decode cX6_pass 46 = .ok (.iconst 0, 1) := by decide +kernel
theorem dX6_pass_47 : decode cX6_pass 47 = .ok (.istore_n 2, 1) := by decide +kernel
theorem dX6_pass_48 : decode cX6_pass 48 = .ok (.iload_n 2, 1) := by decide +kernel
theorem dX6_pass_49 : decode cX6_pass 49 = .ok (.iload_n 1, 1) := by decide +kernel
theorem dX6_pass_50 : decode cX6_pass 50 = .ok (.if_icmp .ge 142, 3) := by decide +kernel
theorem dX6_pass_53 : decode cX6_pass 53 = .ok (.iconst 0, 1) := by decide +kernel
theorem dX6_pass_54 : decode cX6_pass 54 = .ok (.istore_n 3, 1) := by decide +kernel
theorem dX6_pass_55 : decode cX6_pass 55 = .ok (.iload_n 3, 1) := by decide +kernel
theorem dX6_pass_56 : decode cX6_pass 56 = .ok (.aload_n 0, 1) := by decide +kernel
theorem dX6_pass_57 : decode cX6_pass 57 = .ok (.getfield 100, 3) := by decide +kernel
theorem dX6_pass_60 : decode cX6_pass 60 = .ok (.if_icmp .ge 59, 3) := by decide +kernel
theorem dX6_pass_63 : decode cX6_pass 63 = .ok (.aload_n 0, 1) := by decide +kernel
theorem dX6_pass_64 : decode cX6_pass 64 = .ok (.getfield 34, 3) := by decide +kernel
theorem dX6_pass_67 : decode cX6_pass 67 = .ok (.iload_n 3, 1) := by decide +kernel
theorem dX6_pass_68 : decode cX6_pass 68 = .ok (.dup2, 1) := by decide +kernel
theorem dX6_pass_69 : decode cX6_pass 69 = .ok (.iaload, 1) := by decide +kernel
theorem dX6_pass_70 : decode cX6_pass 70 = .ok (.aload_n 0, 1) := by decide +kernel
theorem dX6_pass_71 : decode cX6_pass 71 = .ok (.getfield 25, 3) := by decide +kernel
theorem dX6_pass_74 : decode cX6_pass 74 = .ok (.iload_n 3, 1) := by decide +kernel
theorem dX6_pass_75 : decode cX6_pass 75 = .ok (.iaload, 1) := by decide +kernel
theorem dX6_pass_76 : decode cX6_pass 76 = .ok (.iadd, 1) := by decide +kernel
theorem dX6_pass_77 : decode cX6_pass 77 = .ok (.iastore, 1) := by decide +kernel
theorem dX6_pass_78 : decode cX6_pass 78 = .ok (.aload_n 0, 1) := by decide +kernel
theorem dX6_pass_79 : decode cX6_pass 79 = .ok (.dup, 1) := by decide +kernel
theorem dX6_pass_80 : decode cX6_pass 80 = .ok (.getfield 148, 3) := by decide +kernel
theorem dX6_pass_83 : decode cX6_pass 83 = .ok (.aload_n 0, 1) := by decide +kernel
theorem dX6_pass_84 : decode cX6_pass 84 = .ok (.getfield 25, 3) := by decide +kernel
theorem dX6_pass_87 : decode cX6_pass 87 = .ok (.iload_n 3, 1) := by decide +kernel
theorem dX6_pass_88 : decode cX6_pass 88 = .ok (.iaload, 1) := by decide +kernel
theorem dX6_pass_89 : decode cX6_pass 89 = .ok (.iadd, 1) := by decide +kernel
theorem dX6_pass_90 : decode cX6_pass 90 = .ok (.putfield 148, 3) := by decide +kernel
theorem dX6_pass_93 : decode cX6_pass 93 = .ok (.aload_n 0, 1) := by decide +kernel
theorem dX6_pass_94 : decode cX6_pass 94 = .ok (.getfield 65, 3) := by decide +kernel
theorem dX6_pass_97 : decode cX6_pass 97 = .ok (.bipush 6, 2) := by decide +kernel
theorem dX6_pass_99 : decode cX6_pass 99 = .ok (.aload_n 0, 1) := by decide +kernel
theorem dX6_pass_100 : decode cX6_pass 100 = .ok (.getfield 120, 3) := by decide +kernel
theorem dX6_pass_103 : decode cX6_pass 103 = .ok (.imul, 1) := by decide +kernel
theorem dX6_pass_104 : decode cX6_pass 104 = .ok (.iload_n 3, 1) := by decide +kernel
theorem dX6_pass_105 : decode cX6_pass 105 = .ok (.iadd, 1) := by decide +kernel
theorem dX6_pass_106 : decode cX6_pass 106 = .ok (.aload_n 0, 1) := by decide +kernel
theorem dX6_pass_107 : decode cX6_pass 107 = .ok (.getfield 25, 3) := by decide +kernel
theorem dX6_pass_110 : decode cX6_pass 110 = .ok (.iload_n 3, 1) := by decide +kernel
theorem dX6_pass_111 : decode cX6_pass 111 = .ok (.iaload, 1) := by decide +kernel
theorem dX6_pass_112 : decode cX6_pass 112 = .ok (.iastore, 1) := by decide +kernel
theorem dX6_pass_113 : decode cX6_pass 113 = .ok (.iinc 3 1, 3) := by decide +kernel
theorem dX6_pass_116 : decode cX6_pass 116 = .ok (.goto (-61), 3) := by decide +kernel
theorem dX6_pass_119 : decode cX6_pass 119 = .ok (.aload_n 0, 1) := by decide +kernel
theorem dX6_pass_120 : decode cX6_pass 120 = .ok (.dup, 1) := by decide +kernel
theorem dX6_pass_121 : decode cX6_pass 121 = .ok (.getfield 151, 3) := by decide +kernel
theorem dX6_pass_124 : decode cX6_pass 124 = .ok (.aload_n 0, 1) := by decide +kernel
theorem dX6_pass_125 : decode cX6_pass 125 = .ok (.aload_n 0, 1) := by decide +kernel
theorem dX6_pass_126 : decode cX6_pass 126 = .ok (.getfield 34, 3) := by decide +kernel
theorem dX6_pass_129 : decode cX6_pass 129 = .ok (.aload_n 0, 1) := by decide +kernel
theorem dX6_pass_130 : decode cX6_pass 130 = .ok (.getfield 37, 3) := by decide +kernel
theorem dX6_pass_133 : decode cX6_pass 133 = .ok (.invokevirtual 154, 3) := by decide +kernel
theorem dX6_pass_136 : decode cX6_pass 136 = .ok (.iadd, 1) := by decide +kernel
theorem dX6_pass_137 : decode cX6_pass 137 = .ok (.putfield 151, 3) := by decide +kernel
theorem dX6_pass_140 : decode cX6_pass 140 = .ok (.iconst 0, 1) := by decide +kernel
theorem dX6_pass_141 : decode cX6_pass 141 = .ok (.istore_n 3, 1) := by decide +kernel
theorem dX6_pass_142 : decode cX6_pass 142 = .ok (.iload_n 3, 1) := by decide +kernel
theorem dX6_pass_143 : decode cX6_pass 143 = .ok (.aload_n 0, 1) := by decide +kernel
theorem dX6_pass_144 : decode cX6_pass 144 = .ok (.getfield 100, 3) := by decide +kernel
theorem dX6_pass_147 : decode cX6_pass 147 = .ok (.if_icmp .ge 29, 3) := by decide +kernel
theorem dX6_pass_150 : decode cX6_pass 150 = .ok (.aload_n 0, 1) := by decide +kernel
theorem dX6_pass_151 : decode cX6_pass 151 = .ok (.getfield 68, 3) := by decide +kernel
theorem dX6_pass_154 : decode cX6_pass 154 = .ok (.bipush 6, 2) := by decide +kernel
theorem dX6_pass_156 : decode cX6_pass 156 = .ok (.aload_n 0, 1) := by decide +kernel
theorem dX6_pass_157 : decode cX6_pass 157 = .ok (.getfield 120, 3) := by decide +kernel
theorem dX6_pass_160 : decode cX6_pass 160 = .ok (.imul, 1) := by decide +kernel
theorem dX6_pass_161 : decode cX6_pass 161 = .ok (.iload_n 3, 1) := by decide +kernel
theorem dX6_pass_162 : decode cX6_pass 162 = .ok (.iadd, 1) := by decide +kernel
theorem dX6_pass_163 : decode cX6_pass 163 = .ok (.aload_n 0, 1) := by decide +kernel
theorem dX6_pass_164 : decode cX6_pass 164 = .ok (.getfield 37, 3) := by decide +kernel
theorem dX6_pass_167 : decode cX6_pass 167 = .ok (.iload_n 3, 1) := by decide +kernel
theorem dX6_pass_168 : decode cX6_pass 168 = .ok (.iaload, 1) := by decide +kernel
theorem dX6_pass_169 : decode cX6_pass 169 = .ok (.iastore, 1) := by decide +kernel
theorem dX6_pass_170 : decode cX6_pass 170 = .ok (.iinc 3 1, 3) := by decide +kernel
theorem dX6_pass_173 : decode cX6_pass 173 = .ok (.goto (-31), 3) := by decide +kernel
theorem dX6_pass_176 : decode cX6_pass 176 = .ok (.aload_n 0, 1) := by decide +kernel
theorem dX6_pass_177 : decode cX6_pass 177 = .ok (.dup, 1) := by decide +kernel
theorem dX6_pass_178 : decode cX6_pass 178 = .ok (.getfield 120, 3) := by decide +kernel
theorem dX6_pass_181 : decode cX6_pass 181 = .ok (.iconst 1, 1) := by decide +kernel
theorem dX6_pass_182 : decode cX6_pass 182 = .ok (.iadd, 1) := by decide +kernel
theorem dX6_pass_183 : decode cX6_pass 183 = .ok (.putfield 120, 3) := by decide +kernel
theorem dX6_pass_186 : decode cX6_pass 186 = .ok (.iinc 2 1, 3) := by decide +kernel
theorem dX6_pass_189 : decode cX6_pass 189 = .ok (.goto (-141), 3) := by decide +kernel
theorem dX6_pass_192 : decode cX6_pass 192 = .ok (.aload_n 0, 1) := by decide +kernel
theorem dX6_pass_193 : decode cX6_pass 193 = .ok (.getfield 120, 3) := by decide +kernel
theorem dX6_pass_196 : decode cX6_pass 196 = .ok (.ireturn, 1) := by decide +kernel
theorem dX6_clock_0 : decode cX6_clock 0 = .ok (.aload_n 0, 1) := by decide +kernel
theorem dX6_clock_1 : decode cX6_clock 1 = .ok (.aload_n 0, 1) := by decide +kernel
theorem dX6_clock_2 : decode cX6_clock 2 = .ok (.getfield 120, 3) := by decide +kernel
theorem dX6_clock_5 : decode cX6_clock 5 = .ok (.invokevirtual 123, 3) := by decide +kernel
theorem dX6_clock_8 : decode cX6_clock 8 = .ok (.ireturn, 1) := by decide +kernel
theorem dX6_volumeOf_0 : decode cX6_volumeOf 0 = .ok (.aload_n 0, 1) := by decide +kernel
theorem dX6_volumeOf_1 : decode cX6_volumeOf 1 = .ok (.aload_n 0, 1) := by decide +kernel
theorem dX6_volumeOf_2 : decode cX6_volumeOf 2 = .ok (.iload_n 1, 1) := by decide +kernel
theorem dX6_volumeOf_3 : decode cX6_volumeOf 3 = .ok (.invokevirtual 107, 3) := by decide +kernel
theorem dX6_volumeOf_6 : decode cX6_volumeOf 6 = .ok (.ifCond .eq 7, 3) := by decide +kernel
theorem dX6_volumeOf_9 : decode cX6_volumeOf 9 = .ok (.iconst 1, 1) := by decide +kernel
theorem dX6_volumeOf_10 : decode cX6_volumeOf 10 = .ok (.goto 4, 3) := by decide +kernel
theorem dX6_volumeOf_13 : decode cX6_volumeOf 13 = .ok (.iconst 0, 1) := by decide +kernel
theorem dX6_volumeOf_14 : decode cX6_volumeOf 14 = .ok (.invokevirtual 114, 3) := by decide +kernel
theorem dX6_volumeOf_17 : decode cX6_volumeOf 17 = .ok (.ifCond .eq 7, 3) := by decide +kernel
theorem dX6_volumeOf_20 : decode cX6_volumeOf 20 = .ok (.iconst 0, 1) := by decide +kernel
theorem dX6_volumeOf_21 : decode cX6_volumeOf 21 = .ok (.goto 9, 3) := by decide +kernel
theorem dX6_volumeOf_24 : decode cX6_volumeOf 24 = .ok (.aload_n 0, 1) := by decide +kernel
theorem dX6_volumeOf_25 : decode cX6_volumeOf 25 = .ok (.getfield 34, 3) := by decide +kernel
theorem dX6_volumeOf_28 : decode cX6_volumeOf 28 = .ok (.iload_n 1, 1) := by decide +kernel
theorem dX6_volumeOf_29 : decode cX6_volumeOf 29 = .ok (.iaload, 1) := by decide +kernel
theorem dX6_volumeOf_30 : decode cX6_volumeOf 30 = .ok (.ireturn, 1) := by decide +kernel
theorem dX6_levelOf_0 : decode cX6_levelOf 0 = .ok (.aload_n 0, 1) := by decide +kernel
theorem dX6_levelOf_1 : decode cX6_levelOf 1 = .ok (.aload_n 0, 1) := by decide +kernel
theorem dX6_levelOf_2 : decode cX6_levelOf 2 = .ok (.iload_n 1, 1) := by decide +kernel
theorem dX6_levelOf_3 : decode cX6_levelOf 3 = .ok (.invokevirtual 107, 3) := by decide +kernel
theorem dX6_levelOf_6 : decode cX6_levelOf 6 = .ok (.ifCond .eq 7, 3) := by decide +kernel
theorem dX6_levelOf_9 : decode cX6_levelOf 9 = .ok (.iconst 1, 1) := by decide +kernel
theorem dX6_levelOf_10 : decode cX6_levelOf 10 = .ok (.goto 4, 3) := by decide +kernel
theorem dX6_levelOf_13 : decode cX6_levelOf 13 = .ok (.iconst 0, 1) := by decide +kernel
theorem dX6_levelOf_14 : decode cX6_levelOf 14 = .ok (.invokevirtual 114, 3) := by decide +kernel
theorem dX6_levelOf_17 : decode cX6_levelOf 17 = .ok (.ifCond .eq 7, 3) := by decide +kernel
theorem dX6_levelOf_20 : decode cX6_levelOf 20 = .ok (.iconst 0, 1) := by decide +kernel
theorem dX6_levelOf_21 : decode cX6_levelOf 21 = .ok (.goto 16, 3) := by decide +kernel
theorem dX6_levelOf_24 : decode cX6_levelOf 24 = .ok (.aload_n 0, 1) := by decide +kernel
theorem dX6_levelOf_25 : decode cX6_levelOf 25 = .ok (.getfield 34, 3) := by decide +kernel
theorem dX6_levelOf_28 : decode cX6_levelOf 28 = .ok (.iload_n 1, 1) := by decide +kernel
theorem dX6_levelOf_29 : decode cX6_levelOf 29 = .ok (.iaload, 1) := by decide +kernel
theorem dX6_levelOf_30 : decode cX6_levelOf 30 = .ok (.aload_n 0, 1) := by decide +kernel
theorem dX6_levelOf_31 : decode cX6_levelOf 31 = .ok (.getfield 7, 3) := by decide +kernel
theorem dX6_levelOf_34 : decode cX6_levelOf 34 = .ok (.iload_n 1, 1) := by decide +kernel
theorem dX6_levelOf_35 : decode cX6_levelOf 35 = .ok (.iaload, 1) := by decide +kernel
theorem dX6_levelOf_36 : decode cX6_levelOf 36 = .ok (.idiv, 1) := by decide +kernel
theorem dX6_levelOf_37 : decode cX6_levelOf 37 = .ok (.ireturn, 1) := by decide +kernel
theorem dX6_streetVolume_0 : decode cX6_streetVolume 0 = .ok (.aload_n 0, 1) := by decide +kernel
theorem dX6_streetVolume_1 : decode cX6_streetVolume 1 = .ok (.aload_n 0, 1) := by decide +kernel
theorem dX6_streetVolume_2 : decode cX6_streetVolume 2 = .ok (.iload_n 1, 1) := by decide +kernel
theorem dX6_streetVolume_3 : decode cX6_streetVolume 3 = .ok (.invokevirtual 107, 3) := by decide +kernel
theorem dX6_streetVolume_6 : decode cX6_streetVolume 6 = .ok (.ifCond .eq 7, 3) := by decide +kernel
theorem dX6_streetVolume_9 : decode cX6_streetVolume 9 = .ok (.iconst 1, 1) := by decide +kernel
theorem dX6_streetVolume_10 : decode cX6_streetVolume 10 = .ok (.goto 4, 3) := by decide +kernel
theorem dX6_streetVolume_13 : decode cX6_streetVolume 13 = .ok (.iconst 0, 1) := by decide +kernel
theorem dX6_streetVolume_14 : decode cX6_streetVolume 14 = .ok (.invokevirtual 114, 3) := by decide +kernel
theorem dX6_streetVolume_17 : decode cX6_streetVolume 17 = .ok (.ifCond .eq 7, 3) := by decide +kernel
theorem dX6_streetVolume_20 : decode cX6_streetVolume 20 = .ok (.iconst 0, 1) := by decide +kernel
theorem dX6_streetVolume_21 : decode cX6_streetVolume 21 = .ok (.goto 9, 3) := by decide +kernel
theorem dX6_streetVolume_24 : decode cX6_streetVolume 24 = .ok (.aload_n 0, 1) := by decide +kernel
theorem dX6_streetVolume_25 : decode cX6_streetVolume 25 = .ok (.getfield 37, 3) := by decide +kernel
theorem dX6_streetVolume_28 : decode cX6_streetVolume 28 = .ok (.iload_n 1, 1) := by decide +kernel
theorem dX6_streetVolume_29 : decode cX6_streetVolume 29 = .ok (.iaload, 1) := by decide +kernel
theorem dX6_streetVolume_30 : decode cX6_streetVolume 30 = .ok (.ireturn, 1) := by decide +kernel
theorem dX6_rainTotal_0 : decode cX6_rainTotal 0 = .ok (.aload_n 0, 1) := by decide +kernel
theorem dX6_rainTotal_1 : decode cX6_rainTotal 1 = .ok (.aload_n 0, 1) := by decide +kernel
theorem dX6_rainTotal_2 : decode cX6_rainTotal 2 = .ok (.getfield 148, 3) := by decide +kernel
theorem dX6_rainTotal_5 : decode cX6_rainTotal 5 = .ok (.invokevirtual 123, 3) := by decide +kernel
theorem dX6_rainTotal_8 : decode cX6_rainTotal 8 = .ok (.ireturn, 1) := by decide +kernel
theorem dX6_riverTotal_0 : decode cX6_riverTotal 0 = .ok (.aload_n 0, 1) := by decide +kernel
theorem dX6_riverTotal_1 : decode cX6_riverTotal 1 = .ok (.aload_n 0, 1) := by decide +kernel
theorem dX6_riverTotal_2 : decode cX6_riverTotal 2 = .ok (.getfield 151, 3) := by decide +kernel
theorem dX6_riverTotal_5 : decode cX6_riverTotal 5 = .ok (.invokevirtual 123, 3) := by decide +kernel
theorem dX6_riverTotal_8 : decode cX6_riverTotal 8 = .ok (.ireturn, 1) := by decide +kernel
theorem dX6_held_0 : decode cX6_held 0 = .ok (.iconst 0, 1) := by decide +kernel
theorem dX6_held_1 : decode cX6_held 1 = .ok (.istore_n 1, 1) := by decide +kernel
theorem dX6_held_2 : decode cX6_held 2 = .ok (.iconst 0, 1) := by decide +kernel
theorem dX6_held_3 : decode cX6_held 3 = .ok (.istore_n 2, 1) := by decide +kernel
theorem dX6_held_4 : decode cX6_held 4 = .ok (.iload_n 2, 1) := by decide +kernel
theorem dX6_held_5 : decode cX6_held 5 = .ok (.aload_n 0, 1) := by decide +kernel
theorem dX6_held_6 : decode cX6_held 6 = .ok (.getfield 100, 3) := by decide +kernel
theorem dX6_held_9 : decode cX6_held 9 = .ok (.if_icmp .ge 25, 3) := by decide +kernel
theorem dX6_held_12 : decode cX6_held 12 = .ok (.iload_n 1, 1) := by decide +kernel
theorem dX6_held_13 : decode cX6_held 13 = .ok (.aload_n 0, 1) := by decide +kernel
theorem dX6_held_14 : decode cX6_held 14 = .ok (.getfield 34, 3) := by decide +kernel
theorem dX6_held_17 : decode cX6_held 17 = .ok (.iload_n 2, 1) := by decide +kernel
theorem dX6_held_18 : decode cX6_held 18 = .ok (.iaload, 1) := by decide +kernel
theorem dX6_held_19 : decode cX6_held 19 = .ok (.aload_n 0, 1) := by decide +kernel
theorem dX6_held_20 : decode cX6_held 20 = .ok (.getfield 37, 3) := by decide +kernel
theorem dX6_held_23 : decode cX6_held 23 = .ok (.iload_n 2, 1) := by decide +kernel
theorem dX6_held_24 : decode cX6_held 24 = .ok (.iaload, 1) := by decide +kernel
theorem dX6_held_25 : decode cX6_held 25 = .ok (.iadd, 1) := by decide +kernel
theorem dX6_held_26 : decode cX6_held 26 = .ok (.iadd, 1) := by decide +kernel
theorem dX6_held_27 : decode cX6_held 27 = .ok (.istore_n 1, 1) := by decide +kernel
theorem dX6_held_28 : decode cX6_held 28 = .ok (.iinc 2 1, 3) := by decide +kernel
theorem dX6_held_31 : decode cX6_held 31 = .ok (.goto (-27), 3) := by decide +kernel
theorem dX6_held_34 : decode cX6_held 34 = .ok (.iload_n 1, 1) := by decide +kernel
theorem dX6_held_35 : decode cX6_held 35 = .ok (.ireturn, 1) := by decide +kernel
theorem dX6_heldTotal_0 : decode cX6_heldTotal 0 = .ok (.aload_n 0, 1) := by decide +kernel
theorem dX6_heldTotal_1 : decode cX6_heldTotal 1 = .ok (.aload_n 0, 1) := by decide +kernel
theorem dX6_heldTotal_2 : decode cX6_heldTotal 2 = .ok (.invokevirtual 158, 3) := by decide +kernel
theorem dX6_heldTotal_5 : decode cX6_heldTotal 5 = .ok (.invokevirtual 123, 3) := by decide +kernel
theorem dX6_heldTotal_8 : decode cX6_heldTotal 8 = .ok (.ireturn, 1) := by decide +kernel
theorem dX6_isBalanced_0 : decode cX6_isBalanced 0 = .ok (.aload_n 0, 1) := by decide +kernel
theorem dX6_isBalanced_1 : decode cX6_isBalanced 1 = .ok (.iconst 0, 1) := by decide +kernel
theorem dX6_isBalanced_2 : decode cX6_isBalanced 2 = .ok (.putfield 97, 3) := by decide +kernel
theorem dX6_isBalanced_5 : decode cX6_isBalanced 5 = .ok (.aload_n 0, 1) := by decide +kernel
theorem dX6_isBalanced_6 : decode cX6_isBalanced 6 = .ok (.getfield 148, 3) := by decide +kernel
theorem dX6_isBalanced_9 : decode cX6_isBalanced 9 = .ok (.aload_n 0, 1) := by decide +kernel
theorem dX6_isBalanced_10 : decode cX6_isBalanced 10 = .ok (.invokevirtual 158, 3) := by decide +kernel
theorem dX6_isBalanced_13 : decode cX6_isBalanced 13 = .ok (.aload_n 0, 1) := by decide +kernel
theorem dX6_isBalanced_14 : decode cX6_isBalanced 14 = .ok (.getfield 151, 3) := by decide +kernel
theorem dX6_isBalanced_17 : decode cX6_isBalanced 17 = .ok (.iadd, 1) := by decide +kernel
theorem dX6_isBalanced_18 : decode cX6_isBalanced 18 = .ok (.if_icmp .ne 7, 3) := by decide +kernel
theorem dX6_isBalanced_21 : decode cX6_isBalanced 21 = .ok (.iconst 1, 1) := by decide +kernel
theorem dX6_isBalanced_22 : decode cX6_isBalanced 22 = .ok (.goto 4, 3) := by decide +kernel
theorem dX6_isBalanced_25 : decode cX6_isBalanced 25 = .ok (.iconst 0, 1) := by decide +kernel
theorem dX6_isBalanced_26 : decode cX6_isBalanced 26 = .ok (.ireturn, 1) := by decide +kernel
theorem dX6_upTo_0 : decode cX6_upTo 0 = .ok (.iconst 0, 1) := by decide +kernel
theorem dX6_upTo_1 : decode cX6_upTo 1 = .ok (.istore_n 3, 1) := by decide +kernel
theorem dX6_upTo_2 : decode cX6_upTo 2 = .ok (.bipush 8, 2) := by decide +kernel
theorem dX6_upTo_4 : decode cX6_upTo 4 = .ok (.iload_n 1, 1) := by decide +kernel
theorem dX6_upTo_5 : decode cX6_upTo 5 = .ok (.imul, 1) := by decide +kernel
theorem dX6_upTo_6 : decode cX6_upTo 6 = .ok (.istore 4, 2) := by decide +kernel
theorem dX6_upTo_8 : decode cX6_upTo 8 = .ok (.iload 4, 2) := by decide +kernel
theorem dX6_upTo_10 : decode cX6_upTo 10 = .ok (.bipush 8, 2) := by decide +kernel
theorem dX6_upTo_12 : decode cX6_upTo 12 = .ok (.iload_n 1, 1) := by decide +kernel
theorem dX6_upTo_13 : decode cX6_upTo 13 = .ok (.imul, 1) := by decide +kernel
theorem dX6_upTo_14 : decode cX6_upTo 14 = .ok (.aload_n 0, 1) := by decide +kernel
theorem dX6_upTo_15 : decode cX6_upTo 15 = .ok (.getfield 28, 3) := by decide +kernel
theorem dX6_upTo_18 : decode cX6_upTo 18 = .ok (.iload_n 1, 1) := by decide +kernel
theorem dX6_upTo_19 : decode cX6_upTo 19 = .ok (.iaload, 1) := by decide +kernel
theorem dX6_upTo_20 : decode cX6_upTo 20 = .ok (.iadd, 1) := by decide +kernel
theorem dX6_upTo_21 : decode cX6_upTo 21 = .ok (.if_icmp .ge 36, 3) := by decide +kernel
theorem dX6_upTo_24 : decode cX6_upTo 24 = .ok (.iload_n 3, 1) := by decide +kernel
theorem dX6_upTo_25 : decode cX6_upTo 25 = .ok (.aload_n 0, 1) := by decide +kernel
theorem dX6_upTo_26 : decode cX6_upTo 26 = .ok (.getfield 31, 3) := by decide +kernel
theorem dX6_upTo_29 : decode cX6_upTo 29 = .ok (.iload 4, 2) := by decide +kernel
theorem dX6_upTo_31 : decode cX6_upTo 31 = .ok (.iaload, 1) := by decide +kernel
theorem dX6_upTo_32 : decode cX6_upTo 32 = .ok (.iload_n 2, 1) := by decide +kernel
theorem dX6_upTo_33 : decode cX6_upTo 33 = .ok (.if_icmp .ge 15, 3) := by decide +kernel
theorem dX6_upTo_36 : decode cX6_upTo 36 = .ok (.iload_n 2, 1) := by decide +kernel
theorem dX6_upTo_37 : decode cX6_upTo 37 = .ok (.aload_n 0, 1) := by decide +kernel
theorem dX6_upTo_38 : decode cX6_upTo 38 = .ok (.getfield 31, 3) := by decide +kernel
theorem dX6_upTo_41 : decode cX6_upTo 41 = .ok (.iload 4, 2) := by decide +kernel
theorem dX6_upTo_43 : decode cX6_upTo 43 = .ok (.iaload, 1) := by decide +kernel
theorem dX6_upTo_44 : decode cX6_upTo 44 = .ok (.isub, 1) := by decide +kernel
theorem dX6_upTo_45 : decode cX6_upTo 45 = .ok (.goto 4, 3) := by decide +kernel
theorem dX6_upTo_48 : decode cX6_upTo 48 = .ok (.iconst 0, 1) := by decide +kernel
theorem dX6_upTo_49 : decode cX6_upTo 49 = .ok (.iadd, 1) := by decide +kernel
theorem dX6_upTo_50 : decode cX6_upTo 50 = .ok (.istore_n 3, 1) := by decide +kernel
theorem dX6_upTo_51 : decode cX6_upTo 51 = .ok (.iinc 4 1, 3) := by decide +kernel
theorem dX6_upTo_54 : decode cX6_upTo 54 = .ok (.goto (-46), 3) := by decide +kernel
theorem dX6_upTo_57 : decode cX6_upTo 57 = .ok (.iload_n 3, 1) := by decide +kernel
theorem dX6_upTo_58 : decode cX6_upTo 58 = .ok (.ireturn, 1) := by decide +kernel
theorem dX6_heightOf_0 : decode cX6_heightOf 0 = .ok (.iconst 0, 1) := by decide +kernel
theorem dX6_heightOf_1 : decode cX6_heightOf 1 = .ok (.istore_n 3, 1) := by decide +kernel
theorem dX6_heightOf_2 : decode cX6_heightOf 2 = .ok (.iload_n 2, 1) := by decide +kernel
theorem dX6_heightOf_3 : decode cX6_heightOf 3 = .ok (.bipush 31, 2) := by decide +kernel
theorem dX6_heightOf_5 : decode cX6_heightOf 5 = .ok (.iadd, 1) := by decide +kernel
theorem dX6_heightOf_6 : decode cX6_heightOf 6 = .ok (.istore 4, 2) := by decide +kernel
theorem dX6_heightOf_8 : decode cX6_heightOf 8 = .ok (.iload 4, 2) := by decide +kernel
theorem dX6_heightOf_10 : decode cX6_heightOf 10 = .ok (.iload_n 3, 1) := by decide +kernel
theorem dX6_heightOf_11 : decode cX6_heightOf 11 = .ok (.isub, 1) := by decide +kernel
theorem dX6_heightOf_12 : decode cX6_heightOf 12 = .ok (.iconst 1, 1) := by decide +kernel
theorem dX6_heightOf_13 : decode cX6_heightOf 13 = .ok (.if_icmp .le 35, 3) := by decide +kernel
theorem dX6_heightOf_16 : decode cX6_heightOf 16 = .ok (.iload_n 3, 1) := by decide +kernel
theorem dX6_heightOf_17 : decode cX6_heightOf 17 = .ok (.iload 4, 2) := by decide +kernel
theorem dX6_heightOf_19 : decode cX6_heightOf 19 = .ok (.iadd, 1) := by decide +kernel
theorem dX6_heightOf_20 : decode cX6_heightOf 20 = .ok (.iconst 2, 1) := by decide +kernel
theorem dX6_heightOf_21 : decode cX6_heightOf 21 = .ok (.idiv, 1) := by decide +kernel
theorem dX6_heightOf_22 : decode cX6_heightOf 22 = .ok (.istore 5, 2) := by decide +kernel
theorem dX6_heightOf_24 : decode cX6_heightOf 24 = .ok (.aload_n 0, 1) := by decide +kernel
theorem dX6_heightOf_25 : decode cX6_heightOf 25 = .ok (.iload_n 1, 1) := by decide +kernel
theorem dX6_heightOf_26 : decode cX6_heightOf 26 = .ok (.iload 5, 2) := by decide +kernel
theorem dX6_heightOf_28 : decode cX6_heightOf 28 = .ok (.invokevirtual 162, 3) := by decide +kernel
theorem dX6_heightOf_31 : decode cX6_heightOf 31 = .ok (.iload_n 2, 1) := by decide +kernel
theorem dX6_heightOf_32 : decode cX6_heightOf 32 = .ok (.if_icmp .gt 9, 3) := by decide +kernel
theorem dX6_heightOf_35 : decode cX6_heightOf 35 = .ok (.iload 5, 2) := by decide +kernel
theorem dX6_heightOf_37 : decode cX6_heightOf 37 = .ok (.istore_n 3, 1) := by decide +kernel
theorem dX6_heightOf_38 : decode cX6_heightOf 38 = .ok (.goto 7, 3) := by decide +kernel
theorem dX6_heightOf_41 : decode cX6_heightOf 41 = .ok (.iload 5, 2) := by decide +kernel
theorem dX6_heightOf_43 : decode cX6_heightOf 43 = .ok (.istore 4, 2) := by decide +kernel
theorem dX6_heightOf_45 : decode cX6_heightOf 45 = .ok (.goto (-37), 3) := by decide +kernel
theorem dX6_heightOf_48 : decode cX6_heightOf 48 = .ok (.iload_n 3, 1) := by decide +kernel
theorem dX6_heightOf_49 : decode cX6_heightOf 49 = .ok (.ireturn, 1) := by decide +kernel
theorem dX6_depth_0 : decode cX6_depth 0 = .ok (.aload_n 0, 1) := by decide +kernel
theorem dX6_depth_1 : decode cX6_depth 1 = .ok (.iload_n 1, 1) := by decide +kernel
theorem dX6_depth_2 : decode cX6_depth 2 = .ok (.iload_n 3, 1) := by decide +kernel
theorem dX6_depth_3 : decode cX6_depth 3 = .ok (.invokevirtual 165, 3) := by decide +kernel
theorem dX6_depth_6 : decode cX6_depth 6 = .ok (.istore 4, 2) := by decide +kernel
theorem dX6_depth_8 : decode cX6_depth 8 = .ok (.iload_n 3, 1) := by decide +kernel
theorem dX6_depth_9 : decode cX6_depth 9 = .ok (.aload_n 0, 1) := by decide +kernel
theorem dX6_depth_10 : decode cX6_depth 10 = .ok (.iload_n 1, 1) := by decide +kernel
theorem dX6_depth_11 : decode cX6_depth 11 = .ok (.iload 4, 2) := by decide +kernel
theorem dX6_depth_13 : decode cX6_depth 13 = .ok (.invokevirtual 162, 3) := by decide +kernel
theorem dX6_depth_16 : decode cX6_depth 16 = .ok (.isub, 1) := by decide +kernel
theorem dX6_depth_17 : decode cX6_depth 17 = .ok (.istore 5, 2) := by decide +kernel
theorem dX6_depth_19 : decode cX6_depth 19 = .ok (.bipush 8, 2) := by decide +kernel
theorem dX6_depth_21 : decode cX6_depth 21 = .ok (.iload_n 1, 1) := by decide +kernel
theorem dX6_depth_22 : decode cX6_depth 22 = .ok (.imul, 1) := by decide +kernel
theorem dX6_depth_23 : decode cX6_depth 23 = .ok (.istore 6, 2) := by decide +kernel
theorem dX6_depth_25 : decode cX6_depth 25 = .ok (.aload_n 0, 1) := by decide +kernel
theorem dX6_depth_26 : decode cX6_depth 26 = .ok (.getfield 31, 3) := by decide +kernel
theorem dX6_depth_29 : decode cX6_depth 29 = .ok (.iload 6, 2) := by decide +kernel
theorem dX6_depth_31 : decode cX6_depth 31 = .ok (.iload_n 2, 1) := by decide +kernel
theorem dX6_depth_32 : decode cX6_depth 32 = .ok (.iadd, 1) := by decide +kernel
theorem dX6_depth_33 : decode cX6_depth 33 = .ok (.iaload, 1) := by decide +kernel
theorem dX6_depth_34 : decode cX6_depth 34 = .ok (.iload 4, 2) := by decide +kernel
theorem dX6_depth_36 : decode cX6_depth 36 = .ok (.if_icmp .le 5, 3) := by decide +kernel
theorem dX6_depth_39 : decode cX6_depth 39 = .ok (.iconst 0, 1) := by decide +kernel
theorem dX6_depth_40 : decode cX6_depth 40 = .ok (.ireturn, 1) := by decide +kernel
theorem dX6_depth_41 : decode cX6_depth 41 = .ok (.iload 6, 2) := by decide +kernel
theorem dX6_depth_43 : decode cX6_depth 43 = .ok (.istore 7, 2) := by decide +kernel
theorem dX6_depth_45 : decode cX6_depth 45 = .ok (.iload 7, 2) := by decide +kernel
theorem dX6_depth_47 : decode cX6_depth 47 = .ok (.iload 6, 2) := by decide +kernel
theorem dX6_depth_49 : decode cX6_depth 49 = .ok (.iload_n 2, 1) := by decide +kernel
theorem dX6_depth_50 : decode cX6_depth 50 = .ok (.iadd, 1) := by decide +kernel
theorem dX6_depth_51 : decode cX6_depth 51 = .ok (.if_icmp .ge 31, 3) := by decide +kernel
theorem dX6_depth_54 : decode cX6_depth 54 = .ok (.iload 5, 2) := by decide +kernel
theorem dX6_depth_56 : decode cX6_depth 56 = .ok (.aload_n 0, 1) := by decide +kernel
theorem dX6_depth_57 : decode cX6_depth 57 = .ok (.getfield 31, 3) := by decide +kernel
theorem dX6_depth_60 : decode cX6_depth 60 = .ok (.iload 7, 2) := by decide +kernel
theorem dX6_depth_62 : decode cX6_depth 62 = .ok (.iaload, 1) := by decide +kernel
theorem dX6_depth_63 : decode cX6_depth 63 = .ok (.iload 4, 2) := by decide +kernel
theorem dX6_depth_65 : decode cX6_depth 65 = .ok (.if_icmp .gt 7, 3) := by decide +kernel
theorem dX6_depth_68 : decode cX6_depth 68 = .ok (.iconst 1, 1) := by decide +kernel
theorem dX6_depth_69 : decode cX6_depth 69 = .ok (.goto 4, 3) := by decide +kernel
theorem dX6_depth_72 : decode cX6_depth 72 = .ok (.iconst 0, 1) := by decide +kernel
theorem dX6_depth_73 : decode cX6_depth 73 = .ok (.isub, 1) := by decide +kernel
theorem dX6_depth_74 : decode cX6_depth 74 = .ok (.istore 5, 2) := by decide +kernel
theorem dX6_depth_76 : decode cX6_depth 76 = .ok (.iinc 7 1, 3) := by decide +kernel
theorem dX6_depth_79 : decode cX6_depth 79 = .ok (.goto (-34), 3) := by decide +kernel
theorem dX6_depth_82 : decode cX6_depth 82 = .ok (.iload 4, 2) := by decide +kernel
theorem dX6_depth_84 : decode cX6_depth 84 = .ok (.aload_n 0, 1) := by decide +kernel
theorem dX6_depth_85 : decode cX6_depth 85 = .ok (.getfield 31, 3) := by decide +kernel
theorem dX6_depth_88 : decode cX6_depth 88 = .ok (.iload 6, 2) := by decide +kernel
theorem dX6_depth_90 : decode cX6_depth 90 = .ok (.iload_n 2, 1) := by decide +kernel
theorem dX6_depth_91 : decode cX6_depth 91 = .ok (.iadd, 1) := by decide +kernel
theorem dX6_depth_92 : decode cX6_depth 92 = .ok (.iaload, 1) := by decide +kernel
theorem dX6_depth_93 : decode cX6_depth 93 = .ok (.isub, 1) := by decide +kernel
theorem dX6_depth_94 : decode cX6_depth 94 = .ok (.iload 5, 2) := by decide +kernel
theorem dX6_depth_96 : decode cX6_depth 96 = .ok (.ifCond .le 7, 3) := by decide +kernel
theorem dX6_depth_99 : decode cX6_depth 99 = .ok (.iconst 1, 1) := by decide +kernel
theorem dX6_depth_100 : decode cX6_depth 100 = .ok (.goto 4, 3) := by decide +kernel
theorem dX6_depth_103 : decode cX6_depth 103 = .ok (.iconst 0, 1) := by decide +kernel
theorem dX6_depth_104 : decode cX6_depth 104 = .ok (.iadd, 1) := by decide +kernel
theorem dX6_depth_105 : decode cX6_depth 105 = .ok (.ireturn, 1) := by decide +kernel
theorem dX6_deep_0 : decode cX6_deep 0 = .ok (.aload_n 0, 1) := by decide +kernel
theorem dX6_deep_1 : decode cX6_deep 1 = .ok (.aload_n 0, 1) := by decide +kernel
theorem dX6_deep_2 : decode cX6_deep 2 = .ok (.iload_n 1, 1) := by decide +kernel
theorem dX6_deep_3 : decode cX6_deep 3 = .ok (.iload_n 2, 1) := by decide +kernel
theorem dX6_deep_4 : decode cX6_deep 4 = .ok (.invokevirtual 168, 3) := by decide +kernel
theorem dX6_deep_7 : decode cX6_deep 7 = .ok (.ifCond .eq 7, 3) := by decide +kernel
theorem dX6_deep_10 : decode cX6_deep 10 = .ok (.iconst 1, 1) := by decide +kernel
theorem dX6_deep_11 : decode cX6_deep 11 = .ok (.goto 4, 3) := by decide +kernel
theorem dX6_deep_14 : decode cX6_deep 14 = .ok (.iconst 0, 1) := by decide +kernel
theorem dX6_deep_15 : decode cX6_deep 15 = .ok (.invokevirtual 114, 3) := by decide +kernel
theorem dX6_deep_18 : decode cX6_deep 18 = .ok (.ifCond .eq 7, 3) := by decide +kernel
theorem dX6_deep_21 : decode cX6_deep 21 = .ok (.iconst 0, 1) := by decide +kernel
theorem dX6_deep_22 : decode cX6_deep 22 = .ok (.goto 15, 3) := by decide +kernel
theorem dX6_deep_25 : decode cX6_deep 25 = .ok (.aload_n 0, 1) := by decide +kernel
theorem dX6_deep_26 : decode cX6_deep 26 = .ok (.iload_n 1, 1) := by decide +kernel
theorem dX6_deep_27 : decode cX6_deep 27 = .ok (.iload_n 2, 1) := by decide +kernel
theorem dX6_deep_28 : decode cX6_deep 28 = .ok (.aload_n 0, 1) := by decide +kernel
theorem dX6_deep_29 : decode cX6_deep 29 = .ok (.getfield 37, 3) := by decide +kernel
theorem dX6_deep_32 : decode cX6_deep 32 = .ok (.iload_n 1, 1) := by decide +kernel
theorem dX6_deep_33 : decode cX6_deep 33 = .ok (.iaload, 1) := by decide +kernel
theorem dX6_deep_34 : decode cX6_deep 34 = .ok (.invokevirtual 172, 3) := by decide +kernel
theorem dX6_deep_37 : decode cX6_deep 37 = .ok (.ireturn, 1) := by decide +kernel
theorem dX6_depthAt_0 : decode cX6_depthAt 0 = .ok (.aload_n 0, 1) := by decide +kernel
theorem dX6_depthAt_1 : decode cX6_depthAt 1 = .ok (.iload_n 1, 1) := by decide +kernel
theorem dX6_depthAt_2 : decode cX6_depthAt 2 = .ok (.iload_n 2, 1) := by decide +kernel
theorem dX6_depthAt_3 : decode cX6_depthAt 3 = .ok (.invokevirtual 176, 3) := by decide +kernel
theorem dX6_depthAt_6 : decode cX6_depthAt 6 = .ok (.ireturn, 1) := by decide +kernel
theorem dX6_depthByPouring_0 : decode cX6_depthByPouring 0 = .ok (.aload_n 0, 1) := by decide +kernel
theorem dX6_depthByPouring_1 : decode cX6_depthByPouring 1 = .ok (.iload_n 1, 1) := by decide +kernel
theorem dX6_depthByPouring_2 : decode cX6_depthByPouring 2 = .ok (.iload_n 2, 1) := by decide +kernel
theorem dX6_depthByPouring_3 : decode cX6_depthByPouring 3 = .ok (.invokevirtual 176, 3) := by decide +kernel
theorem dX6_depthByPouring_6 : decode cX6_depthByPouring 6 = .ok (.ireturn, 1) := by decide +kernel
theorem dX6_then_0 : decode cX6_then 0 = .ok (.aload_n 0, 1) := by decide +kernel
theorem dX6_then_1 : decode cX6_then 1 = .ok (.iload_n 1, 1) := by decide +kernel
theorem dX6_then_2 : decode cX6_then 2 = .ok (.iload_n 2, 1) := by decide +kernel
theorem dX6_then_3 : decode cX6_then 3 = .ok (.aload_n 0, 1) := by decide +kernel
theorem dX6_then_4 : decode cX6_then 4 = .ok (.getfield 68, 3) := by decide +kernel
theorem dX6_then_7 : decode cX6_then 7 = .ok (.bipush 6, 2) := by decide +kernel
theorem dX6_then_9 : decode cX6_then 9 = .ok (.iload_n 3, 1) := by decide +kernel
theorem dX6_then_10 : decode cX6_then 10 = .ok (.iconst 1, 1) := by decide +kernel
theorem dX6_then_11 : decode cX6_then 11 = .ok (.isub, 1) := by decide +kernel
theorem dX6_then_12 : decode cX6_then 12 = .ok (.imul, 1) := by decide +kernel
theorem dX6_then_13 : decode cX6_then 13 = .ok (.iload_n 1, 1) := by decide +kernel
theorem dX6_then_14 : decode cX6_then 14 = .ok (.iadd, 1) := by decide +kernel
theorem dX6_then_15 : decode cX6_then 15 = .ok (.iaload, 1) := by decide +kernel
theorem dX6_then_16 : decode cX6_then 16 = .ok (.invokevirtual 172, 3) := by decide +kernel
theorem dX6_then_19 : decode cX6_then 19 = .ok (.ireturn, 1) := by decide +kernel
theorem dX6_depthThen_0 : decode cX6_depthThen 0 = .ok (.aload_n 0, 1) := by decide +kernel
theorem dX6_depthThen_1 : decode cX6_depthThen 1 = .ok (.aload_n 0, 1) := by decide +kernel
theorem dX6_depthThen_2 : decode cX6_depthThen 2 = .ok (.iload_n 1, 1) := by decide +kernel
theorem dX6_depthThen_3 : decode cX6_depthThen 3 = .ok (.iload_n 2, 1) := by decide +kernel
theorem dX6_depthThen_4 : decode cX6_depthThen 4 = .ok (.invokevirtual 168, 3) := by decide +kernel
theorem dX6_depthThen_7 : decode cX6_depthThen 7 = .ok (.ifCond .eq 7, 3) := by decide +kernel
theorem dX6_depthThen_10 : decode cX6_depthThen 10 = .ok (.iconst 1, 1) := by decide +kernel
theorem dX6_depthThen_11 : decode cX6_depthThen 11 = .ok (.goto 20, 3) := by decide +kernel
theorem dX6_depthThen_14 : decode cX6_depthThen 14 = .ok (.iload_n 3, 1) := by decide +kernel
theorem dX6_depthThen_15 : decode cX6_depthThen 15 = .ok (.iconst 1, 1) := by decide +kernel
theorem dX6_depthThen_16 : decode cX6_depthThen 16 = .ok (.aload_n 0, 1) := by decide +kernel
theorem dX6_depthThen_17 : decode cX6_depthThen 17 = .ok (.getfield 120, 3) := by decide +kernel
theorem dX6_depthThen_20 : decode cX6_depthThen 20 = .ok (.invokestatic 103, 3) := by decide +kernel
theorem dX6_depthThen_23 : decode cX6_depthThen 23 = .ok (.ifCond .eq 7, 3) := by decide +kernel
theorem dX6_depthThen_26 : decode cX6_depthThen 26 = .ok (.iconst 0, 1) := by decide +kernel
theorem dX6_depthThen_27 : decode cX6_depthThen 27 = .ok (.goto 4, 3) := by decide +kernel
theorem dX6_depthThen_30 : decode cX6_depthThen 30 = .ok (.iconst 2, 1) := by decide +kernel
theorem dX6_depthThen_31 : decode cX6_depthThen 31 = .ok (.invokevirtual 114, 3) := by decide +kernel
theorem dX6_depthThen_34 : decode cX6_depthThen 34 = .ok (.ifCond .eq 7, 3) := by decide +kernel
theorem dX6_depthThen_37 : decode cX6_depthThen 37 = .ok (.iconst 0, 1) := by decide +kernel
theorem dX6_depthThen_38 : decode cX6_depthThen 38 = .ok (.goto 10, 3) := by decide +kernel
theorem dX6_depthThen_41 : decode cX6_depthThen 41 = .ok (.aload_n 0, 1) := by decide +kernel
theorem dX6_depthThen_42 : decode cX6_depthThen 42 = .ok (.iload_n 1, 1) := by decide +kernel
theorem dX6_depthThen_43 : decode cX6_depthThen 43 = .ok (.iload_n 2, 1) := by decide +kernel
theorem dX6_depthThen_44 : decode cX6_depthThen 44 = .ok (.iload_n 3, 1) := by decide +kernel
theorem dX6_depthThen_45 : decode cX6_depthThen 45 = .ok (.invokevirtual 179, 3) := by decide +kernel
theorem dX6_depthThen_48 : decode cX6_depthThen 48 = .ok (.ireturn, 1) := by decide +kernel
theorem dX6_wet_0 : decode cX6_wet 0 = .ok (.iconst 0, 1) := by decide +kernel
theorem dX6_wet_1 : decode cX6_wet 1 = .ok (.istore_n 3, 1) := by decide +kernel
theorem dX6_wet_2 : decode cX6_wet 2 = .ok (.iconst 0, 1) := by decide +kernel
theorem dX6_wet_3 : decode cX6_wet 3 = .ok (.istore 4, 2) := by decide +kernel
theorem dX6_wet_5 : decode cX6_wet 5 = .ok (.iload 4, 2) := by decide +kernel
theorem dX6_wet_7 : decode cX6_wet 7 = .ok (.aload_n 0, 1) := by decide +kernel
theorem dX6_wet_8 : decode cX6_wet 8 = .ok (.getfield 28, 3) := by decide +kernel
theorem dX6_wet_11 : decode cX6_wet 11 = .ok (.iload_n 1, 1) := by decide +kernel
theorem dX6_wet_12 : decode cX6_wet 12 = .ok (.iaload, 1) := by decide +kernel
theorem dX6_wet_13 : decode cX6_wet 13 = .ok (.if_icmp .ge 28, 3) := by decide +kernel
theorem dX6_wet_16 : decode cX6_wet 16 = .ok (.iload_n 3, 1) := by decide +kernel
theorem dX6_wet_17 : decode cX6_wet 17 = .ok (.aload_n 0, 1) := by decide +kernel
theorem dX6_wet_18 : decode cX6_wet 18 = .ok (.iload_n 1, 1) := by decide +kernel
theorem dX6_wet_19 : decode cX6_wet 19 = .ok (.iload 4, 2) := by decide +kernel
theorem dX6_wet_21 : decode cX6_wet 21 = .ok (.iload_n 2, 1) := by decide +kernel
theorem dX6_wet_22 : decode cX6_wet 22 = .ok (.invokevirtual 172, 3) := by decide +kernel
theorem dX6_wet_25 : decode cX6_wet 25 = .ok (.ifCond .le 7, 3) := by decide +kernel
theorem dX6_wet_28 : decode cX6_wet 28 = .ok (.iconst 1, 1) := by decide +kernel
theorem dX6_wet_29 : decode cX6_wet 29 = .ok (.goto 4, 3) := by decide +kernel
theorem dX6_wet_32 : decode cX6_wet 32 = .ok (.iconst 0, 1) := by decide +kernel
theorem dX6_wet_33 : decode cX6_wet 33 = .ok (.iadd, 1) := by decide +kernel
theorem dX6_wet_34 : decode cX6_wet 34 = .ok (.istore_n 3, 1) := by decide +kernel
theorem dX6_wet_35 : decode cX6_wet 35 = .ok (.iinc 4 1, 3) := by decide +kernel
theorem dX6_wet_38 : decode cX6_wet 38 = .ok (.goto (-33), 3) := by decide +kernel
theorem dX6_wet_41 : decode cX6_wet 41 = .ok (.iload_n 3, 1) := by decide +kernel
theorem dX6_wet_42 : decode cX6_wet 42 = .ok (.ireturn, 1) := by decide +kernel
theorem dX6_wetCells_0 : decode cX6_wetCells 0 = .ok (.aload_n 0, 1) := by decide +kernel
theorem dX6_wetCells_1 : decode cX6_wetCells 1 = .ok (.aload_n 0, 1) := by decide +kernel
theorem dX6_wetCells_2 : decode cX6_wetCells 2 = .ok (.iload_n 1, 1) := by decide +kernel
theorem dX6_wetCells_3 : decode cX6_wetCells 3 = .ok (.invokevirtual 107, 3) := by decide +kernel
theorem dX6_wetCells_6 : decode cX6_wetCells 6 = .ok (.ifCond .eq 7, 3) := by decide +kernel
theorem dX6_wetCells_9 : decode cX6_wetCells 9 = .ok (.iconst 1, 1) := by decide +kernel
theorem dX6_wetCells_10 : decode cX6_wetCells 10 = .ok (.goto 4, 3) := by decide +kernel
theorem dX6_wetCells_13 : decode cX6_wetCells 13 = .ok (.iconst 0, 1) := by decide +kernel
theorem dX6_wetCells_14 : decode cX6_wetCells 14 = .ok (.invokevirtual 114, 3) := by decide +kernel
theorem dX6_wetCells_17 : decode cX6_wetCells 17 = .ok (.ifCond .eq 7, 3) := by decide +kernel
theorem dX6_wetCells_20 : decode cX6_wetCells 20 = .ok (.iconst 0, 1) := by decide +kernel
theorem dX6_wetCells_21 : decode cX6_wetCells 21 = .ok (.goto 14, 3) := by decide +kernel
theorem dX6_wetCells_24 : decode cX6_wetCells 24 = .ok (.aload_n 0, 1) := by decide +kernel
theorem dX6_wetCells_25 : decode cX6_wetCells 25 = .ok (.iload_n 1, 1) := by decide +kernel
theorem dX6_wetCells_26 : decode cX6_wetCells 26 = .ok (.aload_n 0, 1) := by decide +kernel
theorem dX6_wetCells_27 : decode cX6_wetCells 27 = .ok (.getfield 37, 3) := by decide +kernel
theorem dX6_wetCells_30 : decode cX6_wetCells 30 = .ok (.iload_n 1, 1) := by decide +kernel
theorem dX6_wetCells_31 : decode cX6_wetCells 31 = .ok (.iaload, 1) := by decide +kernel
theorem dX6_wetCells_32 : decode cX6_wetCells 32 = .ok (.invokevirtual 182, 3) := by decide +kernel
theorem dX6_wetCells_35 : decode cX6_wetCells 35 = .ok (.ireturn, 1) := by decide +kernel
theorem dX6_wetHours_0 : decode cX6_wetHours 0 = .ok (.aload_n 0, 1) := by decide +kernel
theorem dX6_wetHours_1 : decode cX6_wetHours 1 = .ok (.aload_n 0, 1) := by decide +kernel
theorem dX6_wetHours_2 : decode cX6_wetHours 2 = .ok (.iload_n 1, 1) := by decide +kernel
theorem dX6_wetHours_3 : decode cX6_wetHours 3 = .ok (.iload_n 2, 1) := by decide +kernel
theorem dX6_wetHours_4 : decode cX6_wetHours 4 = .ok (.invokevirtual 168, 3) := by decide +kernel
theorem dX6_wetHours_7 : decode cX6_wetHours 7 = .ok (.ifCond .eq 7, 3) := by decide +kernel
theorem dX6_wetHours_10 : decode cX6_wetHours 10 = .ok (.iconst 1, 1) := by decide +kernel
theorem dX6_wetHours_11 : decode cX6_wetHours 11 = .ok (.goto 4, 3) := by decide +kernel
theorem dX6_wetHours_14 : decode cX6_wetHours 14 = .ok (.iconst 0, 1) := by decide +kernel
theorem dX6_wetHours_15 : decode cX6_wetHours 15 = .ok (.invokevirtual 114, 3) := by decide +kernel
theorem dX6_wetHours_18 : decode cX6_wetHours 18 = .ok (.ifCond .eq 5, 3) := by decide +kernel
theorem dX6_wetHours_21 : decode cX6_wetHours 21 = .ok (.iconst 0, 1) := by decide +kernel
theorem dX6_wetHours_22 : decode cX6_wetHours 22 = .ok (.ireturn, 1) := by decide +kernel
theorem dX6_wetHours_23 : decode cX6_wetHours 23 = .ok (.iconst 0, 1) := by decide +kernel
theorem dX6_wetHours_24 : decode cX6_wetHours 24 = .ok (.istore_n 3, 1) := by decide +kernel
theorem dX6_wetHours_25 : decode cX6_wetHours 25 = .ok (.iconst 1, 1) := by decide +kernel
theorem dX6_wetHours_26 : decode cX6_wetHours 26 = .ok (.istore 4, 2) := by decide +kernel
theorem dX6_wetHours_28 : decode cX6_wetHours 28 = .ok (.iload 4, 2) := by decide +kernel
theorem dX6_wetHours_30 : decode cX6_wetHours 30 = .ok (.aload_n 0, 1) := by decide +kernel
theorem dX6_wetHours_31 : decode cX6_wetHours 31 = .ok (.getfield 120, 3) := by decide +kernel
theorem dX6_wetHours_34 : decode cX6_wetHours 34 = .ok (.if_icmp .gt 28, 3) := by decide +kernel
theorem dX6_wetHours_37 : decode cX6_wetHours 37 = .ok (.iload_n 3, 1) := by decide +kernel
theorem dX6_wetHours_38 : decode cX6_wetHours 38 = .ok (.aload_n 0, 1) := by decide +kernel
theorem dX6_wetHours_39 : decode cX6_wetHours 39 = .ok (.iload_n 1, 1) := by decide +kernel
theorem dX6_wetHours_40 : decode cX6_wetHours 40 = .ok (.iload_n 2, 1) := by decide +kernel
theorem dX6_wetHours_41 : decode cX6_wetHours 41 = .ok (.iload 4, 2) := by decide +kernel
theorem dX6_wetHours_43 : decode cX6_wetHours 43 = .ok (.invokevirtual 179, 3) := by decide +kernel
theorem dX6_wetHours_46 : decode cX6_wetHours 46 = .ok (.ifCond .le 7, 3) := by decide +kernel
theorem dX6_wetHours_49 : decode cX6_wetHours 49 = .ok (.iconst 1, 1) := by decide +kernel
theorem dX6_wetHours_50 : decode cX6_wetHours 50 = .ok (.goto 4, 3) := by decide +kernel
theorem dX6_wetHours_53 : decode cX6_wetHours 53 = .ok (.iconst 0, 1) := by decide +kernel
theorem dX6_wetHours_54 : decode cX6_wetHours 54 = .ok (.iadd, 1) := by decide +kernel
theorem dX6_wetHours_55 : decode cX6_wetHours 55 = .ok (.istore_n 3, 1) := by decide +kernel
theorem dX6_wetHours_56 : decode cX6_wetHours 56 = .ok (.iinc 4 1, 3) := by decide +kernel
theorem dX6_wetHours_59 : decode cX6_wetHours 59 = .ok (.goto (-31), 3) := by decide +kernel
theorem dX6_wetHours_62 : decode cX6_wetHours 62 = .ok (.iload_n 3, 1) := by decide +kernel
theorem dX6_wetHours_63 : decode cX6_wetHours 63 = .ok (.ireturn, 1) := by decide +kernel
theorem dX6_floodedSoFar_0 : decode cX6_floodedSoFar 0 = .ok (.aload_n 0, 1) := by decide +kernel
theorem dX6_floodedSoFar_1 : decode cX6_floodedSoFar 1 = .ok (.iconst 0, 1) := by decide +kernel
theorem dX6_floodedSoFar_2 : decode cX6_floodedSoFar 2 = .ok (.putfield 97, 3) := by decide +kernel
theorem dX6_floodedSoFar_5 : decode cX6_floodedSoFar 5 = .ok (.iconst 0, 1) := by decide +kernel
theorem dX6_floodedSoFar_6 : decode cX6_floodedSoFar 6 = .ok (.istore_n 1, 1) := by decide +kernel
theorem dX6_floodedSoFar_7 : decode cX6_floodedSoFar 7 = .ok (.iconst 0, 1) := by decide +kernel
theorem dX6_floodedSoFar_8 : decode cX6_floodedSoFar 8 = .ok (.istore_n 2, 1) := by decide +kernel
theorem dX6_floodedSoFar_9 : decode cX6_floodedSoFar 9 = .ok (.iload_n 2, 1) := by decide +kernel
theorem dX6_floodedSoFar_10 : decode cX6_floodedSoFar 10 = .ok (.aload_n 0, 1) := by decide +kernel
theorem dX6_floodedSoFar_11 : decode cX6_floodedSoFar 11 = .ok (.getfield 120, 3) := by decide +kernel
theorem dX6_floodedSoFar_14 : decode cX6_floodedSoFar 14 = .ok (.if_icmp .ge 44, 3) := by decide +kernel
theorem dX6_floodedSoFar_17 : decode cX6_floodedSoFar 17 = .ok (.iconst 0, 1) := by decide +kernel
theorem dX6_floodedSoFar_18 : decode cX6_floodedSoFar 18 = .ok (.istore_n 3, 1) := by decide +kernel
theorem dX6_floodedSoFar_19 : decode cX6_floodedSoFar 19 = .ok (.iload_n 3, 1) := by decide +kernel
theorem dX6_floodedSoFar_20 : decode cX6_floodedSoFar 20 = .ok (.aload_n 0, 1) := by decide +kernel
theorem dX6_floodedSoFar_21 : decode cX6_floodedSoFar 21 = .ok (.getfield 100, 3) := by decide +kernel
theorem dX6_floodedSoFar_24 : decode cX6_floodedSoFar 24 = .ok (.if_icmp .ge 28, 3) := by decide +kernel
theorem dX6_floodedSoFar_27 : decode cX6_floodedSoFar 27 = .ok (.iload_n 1, 1) := by decide +kernel
theorem dX6_floodedSoFar_28 : decode cX6_floodedSoFar 28 = .ok (.aload_n 0, 1) := by decide +kernel
theorem dX6_floodedSoFar_29 : decode cX6_floodedSoFar 29 = .ok (.iload_n 3, 1) := by decide +kernel
theorem dX6_floodedSoFar_30 : decode cX6_floodedSoFar 30 = .ok (.aload_n 0, 1) := by decide +kernel
theorem dX6_floodedSoFar_31 : decode cX6_floodedSoFar 31 = .ok (.getfield 68, 3) := by decide +kernel
theorem dX6_floodedSoFar_34 : decode cX6_floodedSoFar 34 = .ok (.bipush 6, 2) := by decide +kernel
theorem dX6_floodedSoFar_36 : decode cX6_floodedSoFar 36 = .ok (.iload_n 2, 1) := by decide +kernel
theorem dX6_floodedSoFar_37 : decode cX6_floodedSoFar 37 = .ok (.imul, 1) := by decide +kernel
theorem dX6_floodedSoFar_38 : decode cX6_floodedSoFar 38 = .ok (.iload_n 3, 1) := by decide +kernel
theorem dX6_floodedSoFar_39 : decode cX6_floodedSoFar 39 = .ok (.iadd, 1) := by decide +kernel
theorem dX6_floodedSoFar_40 : decode cX6_floodedSoFar 40 = .ok (.iaload, 1) := by decide +kernel
theorem dX6_floodedSoFar_41 : decode cX6_floodedSoFar 41 = .ok (.invokevirtual 182, 3) := by decide +kernel
theorem dX6_floodedSoFar_44 : decode cX6_floodedSoFar 44 = .ok (.iadd, 1) := by decide +kernel
theorem dX6_floodedSoFar_45 : decode cX6_floodedSoFar 45 = .ok (.istore_n 1, 1) := by decide +kernel
theorem dX6_floodedSoFar_46 : decode cX6_floodedSoFar 46 = .ok (.iinc 3 1, 3) := by decide +kernel
theorem dX6_floodedSoFar_49 : decode cX6_floodedSoFar 49 = .ok (.goto (-30), 3) := by decide +kernel
theorem dX6_floodedSoFar_52 : decode cX6_floodedSoFar 52 = .ok (.iinc 2 1, 3) := by decide +kernel
theorem dX6_floodedSoFar_55 : decode cX6_floodedSoFar 55 = .ok (.goto (-46), 3) := by decide +kernel
theorem dX6_floodedSoFar_58 : decode cX6_floodedSoFar 58 = .ok (.iload_n 1, 1) := by decide +kernel
theorem dX6_floodedSoFar_59 : decode cX6_floodedSoFar 59 = .ok (.ireturn, 1) := by decide +kernel
theorem dX6_addHouse_0 : decode cX6_addHouse 0 = .ok (.aload_n 0, 1) := by decide +kernel
theorem dX6_addHouse_1 : decode cX6_addHouse 1 = .ok (.aload_n 0, 1) := by decide +kernel
theorem dX6_addHouse_2 : decode cX6_addHouse 2 = .ok (.iload_n 1, 1) := by decide +kernel
theorem dX6_addHouse_3 : decode cX6_addHouse 3 = .ok (.iload_n 2, 1) := by decide +kernel
theorem dX6_addHouse_4 : decode cX6_addHouse 4 = .ok (.invokevirtual 168, 3) := by decide +kernel
theorem dX6_addHouse_7 : decode cX6_addHouse 7 = .ok (.ifCond .eq 7, 3) := by decide +kernel
theorem dX6_addHouse_10 : decode cX6_addHouse 10 = .ok (.iconst 1, 1) := by decide +kernel
theorem dX6_addHouse_11 : decode cX6_addHouse 11 = .ok (.goto 43, 3) := by decide +kernel
theorem dX6_addHouse_14 : decode cX6_addHouse 14 = .ok (.iload_n 3, 1) := by decide +kernel
theorem dX6_addHouse_15 : decode cX6_addHouse 15 = .ok (.iconst 1, 1) := by decide +kernel
theorem dX6_addHouse_16 : decode cX6_addHouse 16 = .ok (.bipush 100, 2) := by decide +kernel
theorem dX6_addHouse_18 : decode cX6_addHouse 18 = .ok (.invokestatic 103, 3) := by decide +kernel
theorem dX6_addHouse_21 : decode cX6_addHouse 21 = .ok (.ifCond .eq 15, 3) := by decide +kernel
theorem dX6_addHouse_24 : decode cX6_addHouse 24 = .ok (.iload 4, 2) := by decide +kernel
theorem dX6_addHouse_26 : decode cX6_addHouse 26 = .ok (.iconst 0, 1) := by decide +kernel
theorem dX6_addHouse_27 : decode cX6_addHouse 27 = .ok (.sipush 5000, 3) := by decide +kernel
theorem dX6_addHouse_30 : decode cX6_addHouse 30 = .ok (.invokestatic 103, 3) := by decide +kernel
theorem dX6_addHouse_33 : decode cX6_addHouse 33 = .ok (.ifCond .ne 7, 3) := by decide +kernel
theorem dX6_addHouse_36 : decode cX6_addHouse 36 = .ok (.iconst 2, 1) := by decide +kernel
theorem dX6_addHouse_37 : decode cX6_addHouse 37 = .ok (.goto 17, 3) := by decide +kernel
theorem dX6_addHouse_40 : decode cX6_addHouse 40 = .ok (.aload_n 0, 1) := by decide +kernel
theorem dX6_addHouse_41 : decode cX6_addHouse 41 = .ok (.getfield 117, 3) := by decide +kernel
theorem dX6_addHouse_44 : decode cX6_addHouse 44 = .ok (.bipush 10, 2) := by decide +kernel
theorem dX6_addHouse_46 : decode cX6_addHouse 46 = .ok (.if_icmp .ne 7, 3) := by decide +kernel
theorem dX6_addHouse_49 : decode cX6_addHouse 49 = .ok (.iconst 3, 1) := by decide +kernel
theorem dX6_addHouse_50 : decode cX6_addHouse 50 = .ok (.goto 4, 3) := by decide +kernel
theorem dX6_addHouse_53 : decode cX6_addHouse 53 = .ok (.iconst 0, 1) := by decide +kernel
theorem dX6_addHouse_54 : decode cX6_addHouse 54 = .ok (.invokevirtual 114, 3) := by decide +kernel
theorem dX6_addHouse_57 : decode cX6_addHouse 57 = .ok (.ifCond .eq 5, 3) := by decide +kernel
theorem dX6_addHouse_60 : decode cX6_addHouse 60 = .ok (.iconst 0, 1) := by decide +kernel
theorem dX6_addHouse_61 : decode cX6_addHouse 61 = .ok (.ireturn, 1) := by decide +kernel
theorem dX6_addHouse_62 : decode cX6_addHouse 62 = .ok (.aload_n 0, 1) := by decide +kernel
theorem dX6_addHouse_63 : decode cX6_addHouse 63 = .ok (.getfield 71, 3) := by decide +kernel
theorem dX6_addHouse_66 : decode cX6_addHouse 66 = .ok (.aload_n 0, 1) := by decide +kernel
theorem dX6_addHouse_67 : decode cX6_addHouse 67 = .ok (.getfield 117, 3) := by decide +kernel
theorem dX6_addHouse_70 : decode cX6_addHouse 70 = .ok (.iload_n 1, 1) := by decide +kernel
theorem dX6_addHouse_71 : decode cX6_addHouse 71 = .ok (.iastore, 1) := by decide +kernel
theorem dX6_addHouse_72 : decode cX6_addHouse 72 = .ok (.aload_n 0, 1) := by decide +kernel
theorem dX6_addHouse_73 : decode cX6_addHouse 73 = .ok (.getfield 74, 3) := by decide +kernel
theorem dX6_addHouse_76 : decode cX6_addHouse 76 = .ok (.aload_n 0, 1) := by decide +kernel
theorem dX6_addHouse_77 : decode cX6_addHouse 77 = .ok (.getfield 117, 3) := by decide +kernel
theorem dX6_addHouse_80 : decode cX6_addHouse 80 = .ok (.iload_n 2, 1) := by decide +kernel
theorem dX6_addHouse_81 : decode cX6_addHouse 81 = .ok (.iastore, 1) := by decide +kernel
theorem dX6_addHouse_82 : decode cX6_addHouse 82 = .ok (.aload_n 0, 1) := by decide +kernel
theorem dX6_addHouse_83 : decode cX6_addHouse 83 = .ok (.getfield 77, 3) := by decide +kernel
theorem dX6_addHouse_86 : decode cX6_addHouse 86 = .ok (.aload_n 0, 1) := by decide +kernel
theorem dX6_addHouse_87 : decode cX6_addHouse 87 = .ok (.getfield 117, 3) := by decide +kernel
theorem dX6_addHouse_90 : decode cX6_addHouse 90 = .ok (.iload_n 3, 1) := by decide +kernel
theorem dX6_addHouse_91 : decode cX6_addHouse 91 = .ok (.iastore, 1) := by decide +kernel
theorem dX6_addHouse_92 : decode cX6_addHouse 92 = .ok (.aload_n 0, 1) := by decide +kernel
theorem dX6_addHouse_93 : decode cX6_addHouse 93 = .ok (.getfield 80, 3) := by decide +kernel
theorem dX6_addHouse_96 : decode cX6_addHouse 96 = .ok (.aload_n 0, 1) := by decide +kernel
theorem dX6_addHouse_97 : decode cX6_addHouse 97 = .ok (.getfield 117, 3) := by decide +kernel
theorem dX6_addHouse_100 : decode cX6_addHouse 100 = .ok (.iload 4, 2) := by decide +kernel
theorem dX6_addHouse_102 : decode cX6_addHouse 102 = .ok (.iastore, 1) := by decide +kernel
theorem dX6_addHouse_103 : decode cX6_addHouse 103 = .ok (.aload_n 0, 1) := by decide +kernel
theorem dX6_addHouse_104 : decode cX6_addHouse 104 = .ok (.dup, 1) := by decide +kernel
theorem dX6_addHouse_105 : decode cX6_addHouse 105 = .ok (.getfield 117, 3) := by decide +kernel
theorem dX6_addHouse_108 : decode cX6_addHouse 108 = .ok (.iconst 1, 1) := by decide +kernel
theorem dX6_addHouse_109 : decode cX6_addHouse 109 = .ok (.iadd, 1) := by decide +kernel
theorem dX6_addHouse_110 : decode cX6_addHouse 110 = .ok (.putfield 117, 3) := by decide +kernel
theorem dX6_addHouse_113 : decode cX6_addHouse 113 = .ok (.aload_n 0, 1) := by decide +kernel
theorem dX6_addHouse_114 : decode cX6_addHouse 114 = .ok (.getfield 117, 3) := by decide +kernel
theorem dX6_addHouse_117 : decode cX6_addHouse 117 = .ok (.iconst 1, 1) := by decide +kernel
theorem dX6_addHouse_118 : decode cX6_addHouse 118 = .ok (.isub, 1) := by decide +kernel
theorem dX6_addHouse_119 : decode cX6_addHouse 119 = .ok (.ireturn, 1) := by decide +kernel
theorem dX6_houseCount_0 : decode cX6_houseCount 0 = .ok (.aload_n 0, 1) := by decide +kernel
theorem dX6_houseCount_1 : decode cX6_houseCount 1 = .ok (.aload_n 0, 1) := by decide +kernel
theorem dX6_houseCount_2 : decode cX6_houseCount 2 = .ok (.getfield 117, 3) := by decide +kernel
theorem dX6_houseCount_5 : decode cX6_houseCount 5 = .ok (.invokevirtual 123, 3) := by decide +kernel
theorem dX6_houseCount_8 : decode cX6_houseCount 8 = .ok (.ireturn, 1) := by decide +kernel
theorem dX6_isNoHour_0 : decode cX6_isNoHour 0 = .ok (.aload_n 0, 1) := by decide +kernel
theorem dX6_isNoHour_1 : decode cX6_isNoHour 1 = .ok (.aload_n 0, 1) := by decide +kernel
theorem dX6_isNoHour_2 : decode cX6_isNoHour 2 = .ok (.iload_n 1, 1) := by decide +kernel
theorem dX6_isNoHour_3 : decode cX6_isNoHour 3 = .ok (.invokevirtual 185, 3) := by decide +kernel
theorem dX6_isNoHour_6 : decode cX6_isNoHour 6 = .ok (.ifCond .eq 7, 3) := by decide +kernel
theorem dX6_isNoHour_9 : decode cX6_isNoHour 9 = .ok (.iconst 1, 1) := by decide +kernel
theorem dX6_isNoHour_10 : decode cX6_isNoHour 10 = .ok (.goto 20, 3) := by decide +kernel
theorem dX6_isNoHour_13 : decode cX6_isNoHour 13 = .ok (.iload_n 2, 1) := by decide +kernel
theorem dX6_isNoHour_14 : decode cX6_isNoHour 14 = .ok (.iconst 1, 1) := by decide +kernel
theorem dX6_isNoHour_15 : decode cX6_isNoHour 15 = .ok (.aload_n 0, 1) := by decide +kernel
theorem dX6_isNoHour_16 : decode cX6_isNoHour 16 = .ok (.getfield 120, 3) := by decide +kernel
theorem dX6_isNoHour_19 : decode cX6_isNoHour 19 = .ok (.invokestatic 103, 3) := by decide +kernel
theorem dX6_isNoHour_22 : decode cX6_isNoHour 22 = .ok (.ifCond .eq 7, 3) := by decide +kernel
theorem dX6_isNoHour_25 : decode cX6_isNoHour 25 = .ok (.iconst 0, 1) := by decide +kernel
theorem dX6_isNoHour_26 : decode cX6_isNoHour 26 = .ok (.goto 4, 3) := by decide +kernel
theorem dX6_isNoHour_29 : decode cX6_isNoHour 29 = .ok (.iconst 2, 1) := by decide +kernel
theorem dX6_isNoHour_30 : decode cX6_isNoHour 30 = .ok (.invokevirtual 114, 3) := by decide +kernel
theorem dX6_isNoHour_33 : decode cX6_isNoHour 33 = .ok (.ireturn, 1) := by decide +kernel
theorem dX6_worth_0 : decode cX6_worth 0 = .ok (.aload_n 0, 1) := by decide +kernel
theorem dX6_worth_1 : decode cX6_worth 1 = .ok (.getfield 77, 3) := by decide +kernel
theorem dX6_worth_4 : decode cX6_worth 4 = .ok (.iload_n 1, 1) := by decide +kernel
theorem dX6_worth_5 : decode cX6_worth 5 = .ok (.iaload, 1) := by decide +kernel
theorem dX6_worth_6 : decode cX6_worth 6 = .ok (.aload_n 0, 1) := by decide +kernel
theorem dX6_worth_7 : decode cX6_worth 7 = .ok (.aload_n 0, 1) := by decide +kernel
theorem dX6_worth_8 : decode cX6_worth 8 = .ok (.getfield 71, 3) := by decide +kernel
theorem dX6_worth_11 : decode cX6_worth 11 = .ok (.iload_n 1, 1) := by decide +kernel
theorem dX6_worth_12 : decode cX6_worth 12 = .ok (.iaload, 1) := by decide +kernel
theorem dX6_worth_13 : decode cX6_worth 13 = .ok (.aload_n 0, 1) := by decide +kernel
theorem dX6_worth_14 : decode cX6_worth 14 = .ok (.getfield 74, 3) := by decide +kernel
theorem dX6_worth_17 : decode cX6_worth 17 = .ok (.iload_n 1, 1) := by decide +kernel
theorem dX6_worth_18 : decode cX6_worth 18 = .ok (.iaload, 1) := by decide +kernel
theorem dX6_worth_19 : decode cX6_worth 19 = .ok (.iload_n 2, 1) := by decide +kernel
theorem dX6_worth_20 : decode cX6_worth 20 = .ok (.invokevirtual 179, 3) := by decide +kernel
theorem dX6_worth_23 : decode cX6_worth 23 = .ok (.imul, 1) := by decide +kernel
theorem dX6_worth_24 : decode cX6_worth 24 = .ok (.ireturn, 1) := by decide +kernel
theorem dX6_wasWet_0 : decode cX6_wasWet 0 = .ok (.aload_n 0, 1) := by decide +kernel
theorem dX6_wasWet_1 : decode cX6_wasWet 1 = .ok (.iload_n 1, 1) := by decide +kernel
theorem dX6_wasWet_2 : decode cX6_wasWet 2 = .ok (.iload_n 2, 1) := by decide +kernel
theorem dX6_wasWet_3 : decode cX6_wasWet 3 = .ok (.invokevirtual 188, 3) := by decide +kernel
theorem dX6_wasWet_6 : decode cX6_wasWet 6 = .ok (.ifCond .ne 16, 3) := by decide +kernel
theorem dX6_wasWet_9 : decode cX6_wasWet 9 = .ok (.aload_n 0, 1) := by decide +kernel
theorem dX6_wasWet_10 : decode cX6_wasWet 10 = .ok (.iload_n 1, 1) := by decide +kernel
theorem dX6_wasWet_11 : decode cX6_wasWet 11 = .ok (.iload_n 2, 1) := by decide +kernel
theorem dX6_wasWet_12 : decode cX6_wasWet 12 = .ok (.invokevirtual 191, 3) := by decide +kernel
theorem dX6_wasWet_15 : decode cX6_wasWet 15 = .ok (.ifCond .le 7, 3) := by decide +kernel
theorem dX6_wasWet_18 : decode cX6_wasWet 18 = .ok (.iconst 1, 1) := by decide +kernel
theorem dX6_wasWet_19 : decode cX6_wasWet 19 = .ok (.goto 4, 3) := by decide +kernel
theorem dX6_wasWet_22 : decode cX6_wasWet 22 = .ok (.iconst 0, 1) := by decide +kernel
theorem dX6_wasWet_23 : decode cX6_wasWet 23 = .ok (.ireturn, 1) := by decide +kernel
theorem dX6_worthOf_0 : decode cX6_worthOf 0 = .ok (.aload_n 0, 1) := by decide +kernel
theorem dX6_worthOf_1 : decode cX6_worthOf 1 = .ok (.iload_n 1, 1) := by decide +kernel
theorem dX6_worthOf_2 : decode cX6_worthOf 2 = .ok (.iload_n 2, 1) := by decide +kernel
theorem dX6_worthOf_3 : decode cX6_worthOf 3 = .ok (.invokevirtual 188, 3) := by decide +kernel
theorem dX6_worthOf_6 : decode cX6_worthOf 6 = .ok (.ifCond .eq 7, 3) := by decide +kernel
theorem dX6_worthOf_9 : decode cX6_worthOf 9 = .ok (.iconst 0, 1) := by decide +kernel
theorem dX6_worthOf_10 : decode cX6_worthOf 10 = .ok (.goto 9, 3) := by decide +kernel
theorem dX6_worthOf_13 : decode cX6_worthOf 13 = .ok (.aload_n 0, 1) := by decide +kernel
theorem dX6_worthOf_14 : decode cX6_worthOf 14 = .ok (.iload_n 1, 1) := by decide +kernel
theorem dX6_worthOf_15 : decode cX6_worthOf 15 = .ok (.iload_n 2, 1) := by decide +kernel
theorem dX6_worthOf_16 : decode cX6_worthOf 16 = .ok (.invokevirtual 191, 3) := by decide +kernel
theorem dX6_worthOf_19 : decode cX6_worthOf 19 = .ok (.ireturn, 1) := by decide +kernel
theorem dX6_pays_0 : decode cX6_pays 0 = .ok (.aload_n 0, 1) := by decide +kernel
theorem dX6_pays_1 : decode cX6_pays 1 = .ok (.iload_n 1, 1) := by decide +kernel
theorem dX6_pays_2 : decode cX6_pays 2 = .ok (.iload_n 2, 1) := by decide +kernel
theorem dX6_pays_3 : decode cX6_pays 3 = .ok (.invokevirtual 191, 3) := by decide +kernel
theorem dX6_pays_6 : decode cX6_pays 6 = .ok (.aload_n 0, 1) := by decide +kernel
theorem dX6_pays_7 : decode cX6_pays 7 = .ok (.getfield 80, 3) := by decide +kernel
theorem dX6_pays_10 : decode cX6_pays 10 = .ok (.iload_n 1, 1) := by decide +kernel
theorem dX6_pays_11 : decode cX6_pays 11 = .ok (.iaload, 1) := by decide +kernel
theorem dX6_pays_12 : decode cX6_pays 12 = .ok (.aload_n 0, 1) := by decide +kernel
theorem dX6_pays_13 : decode cX6_pays 13 = .ok (.getfield 83, 3) := by decide +kernel
theorem dX6_pays_16 : decode cX6_pays 16 = .ok (.iload_n 1, 1) := by decide +kernel
theorem dX6_pays_17 : decode cX6_pays 17 = .ok (.iaload, 1) := by decide +kernel
theorem dX6_pays_18 : decode cX6_pays 18 = .ok (.isub, 1) := by decide +kernel
theorem dX6_pays_19 : decode cX6_pays 19 = .ok (.invokestatic 144, 3) := by decide +kernel
theorem dX6_pays_22 : decode cX6_pays 22 = .ok (.istore_n 3, 1) := by decide +kernel
theorem dX6_pays_23 : decode cX6_pays 23 = .ok (.aload_n 0, 1) := by decide +kernel
theorem dX6_pays_24 : decode cX6_pays 24 = .ok (.getfield 83, 3) := by decide +kernel
theorem dX6_pays_27 : decode cX6_pays 27 = .ok (.iload_n 1, 1) := by decide +kernel
theorem dX6_pays_28 : decode cX6_pays 28 = .ok (.dup2, 1) := by decide +kernel
theorem dX6_pays_29 : decode cX6_pays 29 = .ok (.iaload, 1) := by decide +kernel
theorem dX6_pays_30 : decode cX6_pays 30 = .ok (.iload_n 3, 1) := by decide +kernel
theorem dX6_pays_31 : decode cX6_pays 31 = .ok (.iadd, 1) := by decide +kernel
theorem dX6_pays_32 : decode cX6_pays 32 = .ok (.iastore, 1) := by decide +kernel
theorem dX6_pays_33 : decode cX6_pays 33 = .ok (.aload_n 0, 1) := by decide +kernel
theorem dX6_pays_34 : decode cX6_pays 34 = .ok (.getfield 86, 3) := by decide +kernel
theorem dX6_pays_37 : decode cX6_pays 37 = .ok (.bipush 60, 2) := by decide +kernel
theorem dX6_pays_39 : decode cX6_pays 39 = .ok (.iload_n 1, 1) := by decide +kernel
theorem dX6_pays_40 : decode cX6_pays 40 = .ok (.imul, 1) := by decide +kernel
theorem dX6_pays_41 : decode cX6_pays 41 = .ok (.iload_n 2, 1) := by decide +kernel
theorem dX6_pays_42 : decode cX6_pays 42 = .ok (.iadd, 1) := by decide +kernel
theorem dX6_pays_43 : decode cX6_pays 43 = .ok (.iconst 1, 1) := by decide +kernel
theorem dX6_pays_44 : decode cX6_pays 44 = .ok (.isub, 1) := by decide +kernel
theorem dX6_pays_45 : decode cX6_pays 45 = .ok (.iconst 1, 1) := by decide +kernel
theorem dX6_pays_46 : decode cX6_pays 46 = .ok (.bastore, 1) := by decide +kernel
theorem dX6_pays_47 : decode cX6_pays 47 = .ok (.aload_n 0, 1) := by decide +kernel
theorem dX6_pays_48 : decode cX6_pays 48 = .ok (.dup, 1) := by decide +kernel
theorem dX6_pays_49 : decode cX6_pays 49 = .ok (.getfield 194, 3) := by decide +kernel
theorem dX6_pays_52 : decode cX6_pays 52 = .ok (.iconst 1, 1) := by decide +kernel
theorem dX6_pays_53 : decode cX6_pays 53 = .ok (.iadd, 1) := by decide +kernel
theorem dX6_pays_54 : decode cX6_pays 54 = .ok (.putfield 194, 3) := by decide +kernel
theorem dX6_pays_57 : decode cX6_pays 57 = .ok (.iload_n 3, 1) := by decide +kernel
theorem dX6_pays_58 : decode cX6_pays 58 = .ok (.ireturn, 1) := by decide +kernel
theorem dX6_claim_0 : decode cX6_claim 0 = .ok (.aload_n 0, 1) := by decide +kernel
theorem dX6_claim_1 : decode cX6_claim 1 = .ok (.iload_n 1, 1) := by decide +kernel
theorem dX6_claim_2 : decode cX6_claim 2 = .ok (.iload_n 2, 1) := by decide +kernel
theorem dX6_claim_3 : decode cX6_claim 3 = .ok (.invokevirtual 188, 3) := by decide +kernel
theorem dX6_claim_6 : decode cX6_claim 6 = .ok (.ifCond .ne 44, 3) := by decide +kernel
theorem dX6_claim_9 : decode cX6_claim 9 = .ok (.aload_n 0, 1) := by decide +kernel
theorem dX6_claim_10 : decode cX6_claim 10 = .ok (.aload_n 0, 1) := by decide +kernel
theorem dX6_claim_11 : decode cX6_claim 11 = .ok (.iload_n 1, 1) := by decide +kernel
theorem dX6_claim_12 : decode cX6_claim 12 = .ok (.iload_n 2, 1) := by decide +kernel
theorem dX6_claim_13 : decode cX6_claim 13 = .ok (.invokevirtual 191, 3) := by decide +kernel
theorem dX6_claim_16 : decode cX6_claim 16 = .ok (.ifCond .ne 7, 3) := by decide +kernel
theorem dX6_claim_19 : decode cX6_claim 19 = .ok (.iconst 3, 1) := by decide +kernel
theorem dX6_claim_20 : decode cX6_claim 20 = .ok (.goto 24, 3) := by decide +kernel
theorem dX6_claim_23 : decode cX6_claim 23 = .ok (.aload_n 0, 1) := by decide +kernel
theorem dX6_claim_24 : decode cX6_claim 24 = .ok (.getfield 86, 3) := by decide +kernel
theorem dX6_claim_27 : decode cX6_claim 27 = .ok (.bipush 60, 2) := by decide +kernel
theorem dX6_claim_29 : decode cX6_claim 29 = .ok (.iload_n 1, 1) := by decide +kernel
theorem dX6_claim_30 : decode cX6_claim 30 = .ok (.imul, 1) := by decide +kernel
theorem dX6_claim_31 : decode cX6_claim 31 = .ok (.iload_n 2, 1) := by decide +kernel
theorem dX6_claim_32 : decode cX6_claim 32 = .ok (.iadd, 1) := by decide +kernel
theorem dX6_claim_33 : decode cX6_claim 33 = .ok (.iconst 1, 1) := by decide +kernel
theorem dX6_claim_34 : decode cX6_claim 34 = .ok (.isub, 1) := by decide +kernel
theorem dX6_claim_35 : decode cX6_claim 35 = .ok (.baload, 1) := by decide +kernel
theorem dX6_claim_36 : decode cX6_claim 36 = .ok (.ifCond .eq 7, 3) := by decide +kernel
theorem dX6_claim_39 : decode cX6_claim 39 = .ok (.iconst 4, 1) := by decide +kernel
theorem dX6_claim_40 : decode cX6_claim 40 = .ok (.goto 4, 3) := by decide +kernel
theorem dX6_claim_43 : decode cX6_claim 43 = .ok (.iconst 0, 1) := by decide +kernel
theorem dX6_claim_44 : decode cX6_claim 44 = .ok (.invokevirtual 114, 3) := by decide +kernel
theorem dX6_claim_47 : decode cX6_claim 47 = .ok (.ifCond .eq 5, 3) := by decide +kernel
theorem dX6_claim_50 : decode cX6_claim 50 = .ok (.iconst 0, 1) := by decide +kernel
theorem dX6_claim_51 : decode cX6_claim 51 = .ok (.ireturn, 1) := by decide +kernel
theorem dX6_claim_52 : decode cX6_claim 52 = .ok (.aload_n 0, 1) := by decide +kernel
theorem dX6_claim_53 : decode cX6_claim 53 = .ok (.iload_n 1, 1) := by decide +kernel
theorem dX6_claim_54 : decode cX6_claim 54 = .ok (.iload_n 2, 1) := by decide +kernel
theorem dX6_claim_55 : decode cX6_claim 55 = .ok (.invokevirtual 197, 3) := by decide +kernel
theorem dX6_claim_58 : decode cX6_claim 58 = .ok (.ireturn, 1) := by decide +kernel
theorem dX6_claimWorst_0 : decode cX6_claimWorst 0 = .ok (.aload_n 0, 1) := by decide +kernel
theorem dX6_claimWorst_1 : decode cX6_claimWorst 1 = .ok (.aload_n 0, 1) := by decide +kernel
theorem dX6_claimWorst_2 : decode cX6_claimWorst 2 = .ok (.iload_n 1, 1) := by decide +kernel
theorem dX6_claimWorst_3 : decode cX6_claimWorst 3 = .ok (.invokevirtual 185, 3) := by decide +kernel
theorem dX6_claimWorst_6 : decode cX6_claimWorst 6 = .ok (.ifCond .eq 7, 3) := by decide +kernel
theorem dX6_claimWorst_9 : decode cX6_claimWorst 9 = .ok (.iconst 1, 1) := by decide +kernel
theorem dX6_claimWorst_10 : decode cX6_claimWorst 10 = .ok (.goto 4, 3) := by decide +kernel
theorem dX6_claimWorst_13 : decode cX6_claimWorst 13 = .ok (.iconst 0, 1) := by decide +kernel
theorem dX6_claimWorst_14 : decode cX6_claimWorst 14 = .ok (.invokevirtual 114, 3) := by decide +kernel
theorem dX6_claimWorst_17 : decode cX6_claimWorst 17 = .ok (.ifCond .eq 5, 3) := by decide +kernel
theorem dX6_claimWorst_20 : decode cX6_claimWorst 20 = .ok (.iconst 0, 1) := by decide +kernel
theorem dX6_claimWorst_21 : decode cX6_claimWorst 21 = .ok (.ireturn, 1) := by decide +kernel
theorem dX6_claimWorst_22 : decode cX6_claimWorst 22 = .ok (.iconst 0, 1) := by decide +kernel
theorem dX6_claimWorst_23 : decode cX6_claimWorst 23 = .ok (.istore_n 2, 1) := by decide +kernel
theorem dX6_claimWorst_24 : decode cX6_claimWorst 24 = .ok (.iconst 0, 1) := by decide +kernel
theorem dX6_claimWorst_25 : decode cX6_claimWorst 25 = .ok (.istore_n 3, 1) := by decide +kernel
theorem dX6_claimWorst_26 : decode cX6_claimWorst 26 = .ok (.iconst 1, 1) := by decide +kernel
theorem dX6_claimWorst_27 : decode cX6_claimWorst 27 = .ok (.istore 4, 2) := by decide +kernel
theorem dX6_claimWorst_29 : decode cX6_claimWorst 29 = .ok (.iload 4, 2) := by decide +kernel
theorem dX6_claimWorst_31 : decode cX6_claimWorst 31 = .ok (.aload_n 0, 1) := by decide +kernel
theorem dX6_claimWorst_32 : decode cX6_claimWorst 32 = .ok (.getfield 120, 3) := by decide +kernel
theorem dX6_claimWorst_35 : decode cX6_claimWorst 35 = .ok (.if_icmp .gt 54, 3) := by decide +kernel
theorem dX6_claimWorst_38 : decode cX6_claimWorst 38 = .ok (.aload_n 0, 1) := by decide +kernel
theorem dX6_claimWorst_39 : decode cX6_claimWorst 39 = .ok (.getfield 86, 3) := by decide +kernel
theorem dX6_claimWorst_42 : decode cX6_claimWorst 42 = .ok (.bipush 60, 2) := by decide +kernel
theorem dX6_claimWorst_44 : decode cX6_claimWorst 44 = .ok (.iload_n 1, 1) := by decide +kernel
theorem dX6_claimWorst_45 : decode cX6_claimWorst 45 = .ok (.imul, 1) := by decide +kernel
theorem dX6_claimWorst_46 : decode cX6_claimWorst 46 = .ok (.iload 4, 2) := by decide +kernel
theorem dX6_claimWorst_48 : decode cX6_claimWorst 48 = .ok (.iadd, 1) := by decide +kernel
theorem dX6_claimWorst_49 : decode cX6_claimWorst 49 = .ok (.iconst 1, 1) := by decide +kernel
theorem dX6_claimWorst_50 : decode cX6_claimWorst 50 = .ok (.isub, 1) := by decide +kernel
theorem dX6_claimWorst_51 : decode cX6_claimWorst 51 = .ok (.baload, 1) := by decide +kernel
theorem dX6_claimWorst_52 : decode cX6_claimWorst 52 = .ok (.ifCond .eq 7, 3) := by decide +kernel
theorem dX6_claimWorst_55 : decode cX6_claimWorst 55 = .ok (.iconst 0, 1) := by decide +kernel
theorem dX6_claimWorst_56 : decode cX6_claimWorst 56 = .ok (.goto 10, 3) := by decide +kernel
theorem dX6_claimWorst_59 : decode cX6_claimWorst 59 = .ok (.aload_n 0, 1) := by decide +kernel
theorem dX6_claimWorst_60 : decode cX6_claimWorst 60 = .ok (.iload_n 1, 1) := by decide +kernel
theorem dX6_claimWorst_61 : decode cX6_claimWorst 61 = .ok (.iload 4, 2) := by decide +kernel
theorem dX6_claimWorst_63 : decode cX6_claimWorst 63 = .ok (.invokevirtual 191, 3) := by decide +kernel
theorem dX6_claimWorst_66 : decode cX6_claimWorst 66 = .ok (.istore 5, 2) := by decide +kernel
theorem dX6_claimWorst_68 : decode cX6_claimWorst 68 = .ok (.iload 5, 2) := by decide +kernel
theorem dX6_claimWorst_70 : decode cX6_claimWorst 70 = .ok (.iload_n 3, 1) := by decide +kernel
theorem dX6_claimWorst_71 : decode cX6_claimWorst 71 = .ok (.if_icmp .gt 6, 3) := by decide +kernel
theorem dX6_claimWorst_74 : decode cX6_claimWorst 74 = .ok (.goto 9, 3) := by decide +kernel
theorem dX6_claimWorst_77 : decode cX6_claimWorst 77 = .ok (.iload 5, 2) := by decide +kernel
theorem dX6_claimWorst_79 : decode cX6_claimWorst 79 = .ok (.istore_n 3, 1) := by decide +kernel
theorem dX6_claimWorst_80 : decode cX6_claimWorst 80 = .ok (.iload 4, 2) := by decide +kernel
theorem dX6_claimWorst_82 : decode cX6_claimWorst 82 = .ok (.istore_n 2, 1) := by decide +kernel
theorem dX6_claimWorst_83 : decode cX6_claimWorst 83 = .ok (.iinc 4 1, 3) := by decide +kernel
theorem dX6_claimWorst_86 : decode cX6_claimWorst 86 = .ok (.goto (-57), 3) := by decide +kernel
theorem dX6_claimWorst_89 : decode cX6_claimWorst 89 = .ok (.aload_n 0, 1) := by decide +kernel
theorem dX6_claimWorst_90 : decode cX6_claimWorst 90 = .ok (.iload_n 2, 1) := by decide +kernel
theorem dX6_claimWorst_91 : decode cX6_claimWorst 91 = .ok (.ifCond .ne 7, 3) := by decide +kernel
theorem dX6_claimWorst_94 : decode cX6_claimWorst 94 = .ok (.iconst 2, 1) := by decide +kernel
theorem dX6_claimWorst_95 : decode cX6_claimWorst 95 = .ok (.goto 4, 3) := by decide +kernel
theorem dX6_claimWorst_98 : decode cX6_claimWorst 98 = .ok (.iconst 0, 1) := by decide +kernel
theorem dX6_claimWorst_99 : decode cX6_claimWorst 99 = .ok (.invokevirtual 114, 3) := by decide +kernel
theorem dX6_claimWorst_102 : decode cX6_claimWorst 102 = .ok (.ifCond .eq 7, 3) := by decide +kernel
theorem dX6_claimWorst_105 : decode cX6_claimWorst 105 = .ok (.iconst 0, 1) := by decide +kernel
theorem dX6_claimWorst_106 : decode cX6_claimWorst 106 = .ok (.goto 9, 3) := by decide +kernel
theorem dX6_claimWorst_109 : decode cX6_claimWorst 109 = .ok (.aload_n 0, 1) := by decide +kernel
theorem dX6_claimWorst_110 : decode cX6_claimWorst 110 = .ok (.iload_n 1, 1) := by decide +kernel
theorem dX6_claimWorst_111 : decode cX6_claimWorst 111 = .ok (.iload_n 2, 1) := by decide +kernel
theorem dX6_claimWorst_112 : decode cX6_claimWorst 112 = .ok (.invokevirtual 197, 3) := by decide +kernel
theorem dX6_claimWorst_115 : decode cX6_claimWorst 115 = .ok (.ireturn, 1) := by decide +kernel
theorem dX6_claimCount_0 : decode cX6_claimCount 0 = .ok (.aload_n 0, 1) := by decide +kernel
theorem dX6_claimCount_1 : decode cX6_claimCount 1 = .ok (.aload_n 0, 1) := by decide +kernel
theorem dX6_claimCount_2 : decode cX6_claimCount 2 = .ok (.iload_n 1, 1) := by decide +kernel
theorem dX6_claimCount_3 : decode cX6_claimCount 3 = .ok (.invokevirtual 185, 3) := by decide +kernel
theorem dX6_claimCount_6 : decode cX6_claimCount 6 = .ok (.ifCond .eq 7, 3) := by decide +kernel
theorem dX6_claimCount_9 : decode cX6_claimCount 9 = .ok (.iconst 1, 1) := by decide +kernel
theorem dX6_claimCount_10 : decode cX6_claimCount 10 = .ok (.goto 4, 3) := by decide +kernel
theorem dX6_claimCount_13 : decode cX6_claimCount 13 = .ok (.iconst 0, 1) := by decide +kernel
theorem dX6_claimCount_14 : decode cX6_claimCount 14 = .ok (.invokevirtual 114, 3) := by decide +kernel
theorem dX6_claimCount_17 : decode cX6_claimCount 17 = .ok (.ifCond .eq 5, 3) := by decide +kernel
theorem dX6_claimCount_20 : decode cX6_claimCount 20 = .ok (.iconst 0, 1) := by decide +kernel
theorem dX6_claimCount_21 : decode cX6_claimCount 21 = .ok (.ireturn, 1) := by decide +kernel
theorem dX6_claimCount_22 : decode cX6_claimCount 22 = .ok (.iconst 0, 1) := by decide +kernel
theorem dX6_claimCount_23 : decode cX6_claimCount 23 = .ok (.istore_n 2, 1) := by decide +kernel
theorem dX6_claimCount_24 : decode cX6_claimCount 24 = .ok (.bipush 60, 2) := by decide +kernel
theorem dX6_claimCount_26 : decode cX6_claimCount 26 = .ok (.iload_n 1, 1) := by decide +kernel
theorem dX6_claimCount_27 : decode cX6_claimCount 27 = .ok (.imul, 1) := by decide +kernel
theorem dX6_claimCount_28 : decode cX6_claimCount 28 = .ok (.istore_n 3, 1) := by decide +kernel
theorem dX6_claimCount_29 : decode cX6_claimCount 29 = .ok (.iload_n 3, 1) := by decide +kernel
theorem dX6_claimCount_30 : decode cX6_claimCount 30 = .ok (.bipush 60, 2) := by decide +kernel
theorem dX6_claimCount_32 : decode cX6_claimCount 32 = .ok (.iload_n 1, 1) := by decide +kernel
theorem dX6_claimCount_33 : decode cX6_claimCount 33 = .ok (.imul, 1) := by decide +kernel
theorem dX6_claimCount_34 : decode cX6_claimCount 34 = .ok (.bipush 60, 2) := by decide +kernel
theorem dX6_claimCount_36 : decode cX6_claimCount 36 = .ok (.iadd, 1) := by decide +kernel
theorem dX6_claimCount_37 : decode cX6_claimCount 37 = .ok (.if_icmp .ge 26, 3) := by decide +kernel
theorem dX6_claimCount_40 : decode cX6_claimCount 40 = .ok (.iload_n 2, 1) := by decide +kernel
theorem dX6_claimCount_41 : decode cX6_claimCount 41 = .ok (.aload_n 0, 1) := by decide +kernel
theorem dX6_claimCount_42 : decode cX6_claimCount 42 = .ok (.getfield 86, 3) := by decide +kernel
theorem dX6_claimCount_45 : decode cX6_claimCount 45 = .ok (.iload_n 3, 1) := by decide +kernel
theorem dX6_claimCount_46 : decode cX6_claimCount 46 = .ok (.baload, 1) := by decide +kernel
theorem dX6_claimCount_47 : decode cX6_claimCount 47 = .ok (.ifCond .eq 7, 3) := by decide +kernel
theorem dX6_claimCount_50 : decode cX6_claimCount 50 = .ok (.iconst 1, 1) := by decide +kernel
theorem dX6_claimCount_51 : decode cX6_claimCount 51 = .ok (.goto 4, 3) := by decide +kernel
theorem dX6_claimCount_54 : decode cX6_claimCount 54 = .ok (.iconst 0, 1) := by decide +kernel
theorem dX6_claimCount_55 : decode cX6_claimCount 55 = .ok (.iadd, 1) := by decide +kernel
theorem dX6_claimCount_56 : decode cX6_claimCount 56 = .ok (.istore_n 2, 1) := by decide +kernel
theorem dX6_claimCount_57 : decode cX6_claimCount 57 = .ok (.iinc 3 1, 3) := by decide +kernel
theorem dX6_claimCount_60 : decode cX6_claimCount 60 = .ok (.goto (-31), 3) := by decide +kernel
theorem dX6_claimCount_63 : decode cX6_claimCount 63 = .ok (.iload_n 2, 1) := by decide +kernel
theorem dX6_claimCount_64 : decode cX6_claimCount 64 = .ok (.ireturn, 1) := by decide +kernel
theorem dX6_paidTo_0 : decode cX6_paidTo 0 = .ok (.aload_n 0, 1) := by decide +kernel
theorem dX6_paidTo_1 : decode cX6_paidTo 1 = .ok (.aload_n 0, 1) := by decide +kernel
theorem dX6_paidTo_2 : decode cX6_paidTo 2 = .ok (.iload_n 1, 1) := by decide +kernel
theorem dX6_paidTo_3 : decode cX6_paidTo 3 = .ok (.invokevirtual 185, 3) := by decide +kernel
theorem dX6_paidTo_6 : decode cX6_paidTo 6 = .ok (.ifCond .eq 7, 3) := by decide +kernel
theorem dX6_paidTo_9 : decode cX6_paidTo 9 = .ok (.iconst 1, 1) := by decide +kernel
theorem dX6_paidTo_10 : decode cX6_paidTo 10 = .ok (.goto 4, 3) := by decide +kernel
theorem dX6_paidTo_13 : decode cX6_paidTo 13 = .ok (.iconst 0, 1) := by decide +kernel
theorem dX6_paidTo_14 : decode cX6_paidTo 14 = .ok (.invokevirtual 114, 3) := by decide +kernel
theorem dX6_paidTo_17 : decode cX6_paidTo 17 = .ok (.ifCond .eq 7, 3) := by decide +kernel
theorem dX6_paidTo_20 : decode cX6_paidTo 20 = .ok (.iconst 0, 1) := by decide +kernel
theorem dX6_paidTo_21 : decode cX6_paidTo 21 = .ok (.goto 9, 3) := by decide +kernel
theorem dX6_paidTo_24 : decode cX6_paidTo 24 = .ok (.aload_n 0, 1) := by decide +kernel
theorem dX6_paidTo_25 : decode cX6_paidTo 25 = .ok (.getfield 83, 3) := by decide +kernel
theorem dX6_paidTo_28 : decode cX6_paidTo 28 = .ok (.iload_n 1, 1) := by decide +kernel
theorem dX6_paidTo_29 : decode cX6_paidTo 29 = .ok (.iaload, 1) := by decide +kernel
theorem dX6_paidTo_30 : decode cX6_paidTo 30 = .ok (.ireturn, 1) := by decide +kernel
theorem dX6_allPaid_0 : decode cX6_allPaid 0 = .ok (.lconst 0, 1) := by decide +kernel
theorem dX6_allPaid_1 : decode cX6_allPaid 1 = .ok (.lstore_n 1, 1) := by decide +kernel
theorem dX6_allPaid_2 : decode cX6_allPaid 2 = .ok (.iconst 0, 1) := by decide +kernel
theorem dX6_allPaid_3 : decode cX6_allPaid 3 = .ok (.istore_n 3, 1) := by decide +kernel
theorem dX6_allPaid_4 : decode cX6_allPaid 4 = .ok (.iload_n 3, 1) := by decide +kernel
theorem dX6_allPaid_5 : decode cX6_allPaid 5 = .ok (.aload_n 0, 1) := by decide +kernel
theorem dX6_allPaid_6 : decode cX6_allPaid 6 = .ok (.getfield 117, 3) := by decide +kernel
theorem dX6_allPaid_9 : decode cX6_allPaid 9 = .ok (.if_icmp .ge 19, 3) := by decide +kernel
theorem dX6_allPaid_12 : decode cX6_allPaid 12 = .ok (.lload_n 1, 1) := by decide +kernel
theorem dX6_allPaid_13 : decode cX6_allPaid 13 = .ok (.aload_n 0, 1) := by decide +kernel
theorem dX6_allPaid_14 : decode cX6_allPaid 14 = .ok (.getfield 83, 3) := by decide +kernel
theorem dX6_allPaid_17 : decode cX6_allPaid 17 = .ok (.iload_n 3, 1) := by decide +kernel
theorem dX6_allPaid_18 : decode cX6_allPaid 18 = .ok (.iaload, 1) := by decide +kernel
theorem dX6_allPaid_19 : decode cX6_allPaid 19 = .ok (.i2l, 1) := by decide +kernel
theorem dX6_allPaid_20 : decode cX6_allPaid 20 = .ok (.ladd, 1) := by decide +kernel
theorem dX6_allPaid_21 : decode cX6_allPaid 21 = .ok (.lstore_n 1, 1) := by decide +kernel
theorem dX6_allPaid_22 : decode cX6_allPaid 22 = .ok (.iinc 3 1, 3) := by decide +kernel
theorem dX6_allPaid_25 : decode cX6_allPaid 25 = .ok (.goto (-21), 3) := by decide +kernel
theorem dX6_allPaid_28 : decode cX6_allPaid 28 = .ok (.lload_n 1, 1) := by decide +kernel
theorem dX6_allPaid_29 : decode cX6_allPaid 29 = .ok (.lreturn, 1) := by decide +kernel
theorem dX6_paidTotal_0 : decode cX6_paidTotal 0 = .ok (.aload_n 0, 1) := by decide +kernel
theorem dX6_paidTotal_1 : decode cX6_paidTotal 1 = .ok (.iconst 0, 1) := by decide +kernel
theorem dX6_paidTotal_2 : decode cX6_paidTotal 2 = .ok (.putfield 97, 3) := by decide +kernel
theorem dX6_paidTotal_5 : decode cX6_paidTotal 5 = .ok (.aload_n 0, 1) := by decide +kernel
theorem dX6_paidTotal_6 : decode cX6_paidTotal 6 = .ok (.invokevirtual 200, 3) := by decide +kernel
theorem dX6_paidTotal_9 : decode cX6_paidTotal 9 = .ok (.lreturn, 1) := by decide +kernel
theorem dX6_meanPayment_0 : decode cX6_meanPayment 0 = .ok (.aload_n 0, 1) := by decide +kernel
theorem dX6_meanPayment_1 : decode cX6_meanPayment 1 = .ok (.aload_n 0, 1) := by decide +kernel
theorem dX6_meanPayment_2 : decode cX6_meanPayment 2 = .ok (.getfield 194, 3) := by decide +kernel
theorem dX6_meanPayment_5 : decode cX6_meanPayment 5 = .ok (.ifCond .ne 7, 3) := by decide +kernel
theorem dX6_meanPayment_8 : decode cX6_meanPayment 8 = .ok (.iconst 1, 1) := by decide +kernel
theorem dX6_meanPayment_9 : decode cX6_meanPayment 9 = .ok (.goto 4, 3) := by decide +kernel
theorem dX6_meanPayment_12 : decode cX6_meanPayment 12 = .ok (.iconst 0, 1) := by decide +kernel
theorem dX6_meanPayment_13 : decode cX6_meanPayment 13 = .ok (.invokevirtual 114, 3) := by decide +kernel
theorem dX6_meanPayment_16 : decode cX6_meanPayment 16 = .ok (.ifCond .eq 7, 3) := by decide +kernel
theorem dX6_meanPayment_19 : decode cX6_meanPayment 19 = .ok (.dconst 0, 1) := by decide +kernel
theorem dX6_meanPayment_20 : decode cX6_meanPayment 20 = .ok (.goto 14, 3) := by decide +kernel
theorem dX6_meanPayment_23 : decode cX6_meanPayment 23 = .ok (.aload_n 0, 1) := by decide +kernel
theorem dX6_meanPayment_24 : decode cX6_meanPayment 24 = .ok (.invokevirtual 200, 3) := by decide +kernel
theorem dX6_meanPayment_27 : decode cX6_meanPayment 27 = .ok (.l2d, 1) := by decide +kernel
theorem dX6_meanPayment_28 : decode cX6_meanPayment 28 = .ok (.aload_n 0, 1) := by decide +kernel
theorem dX6_meanPayment_29 : decode cX6_meanPayment 29 = .ok (.getfield 194, 3) := by decide +kernel
theorem dX6_meanPayment_32 : decode cX6_meanPayment 32 = .ok (.i2d, 1) := by decide +kernel
theorem dX6_meanPayment_33 : decode cX6_meanPayment 33 = .ok (.ddiv, 1) := by decide +kernel
theorem dX6_meanPayment_34 : decode cX6_meanPayment 34 = .ok (.dreturn, 1) := by decide +kernel
theorem dX6_trial_0 : decode cX6_trial 0 = .ok (.aload_n 0, 1) := by decide +kernel
theorem dX6_trial_1 : decode cX6_trial 1 = .ok (.iload_n 1, 1) := by decide +kernel
theorem dX6_trial_2 : decode cX6_trial 2 = .ok (.putfield 89, 3) := by decide +kernel
theorem dX6_trial_5 : decode cX6_trial 5 = .ok (.aload_n 0, 1) := by decide +kernel
theorem dX6_trial_6 : decode cX6_trial 6 = .ok (.iload_n 2, 1) := by decide +kernel
theorem dX6_trial_7 : decode cX6_trial 7 = .ok (.putfield 137, 3) := by decide +kernel
theorem dX6_trial_10 : decode cX6_trial 10 = .ok (.iconst 0, 1) := by decide +kernel
theorem dX6_trial_11 : decode cX6_trial 11 = .ok (.istore_n 3, 1) := by decide +kernel
theorem dX6_trial_12 : decode cX6_trial 12 = .ok (.iload_n 3, 1) := by decide +kernel
theorem dX6_trial_13 : decode cX6_trial 13 = .ok (.aload_n 0, 1) := by decide +kernel
theorem dX6_trial_14 : decode cX6_trial 14 = .ok (.getfield 100, 3) := by decide +kernel
theorem dX6_trial_17 : decode cX6_trial 17 = .ok (.if_icmp .ge 23, 3) := by decide +kernel
theorem dX6_trial_20 : decode cX6_trial 20 = .ok (.aload_n 0, 1) := by decide +kernel
theorem dX6_trial_21 : decode cX6_trial 21 = .ok (.getfield 40, 3) := by decide +kernel
theorem dX6_trial_24 : decode cX6_trial 24 = .ok (.iload_n 3, 1) := by decide +kernel
theorem dX6_trial_25 : decode cX6_trial 25 = .ok (.iconst 0, 1) := by decide +kernel
theorem dX6_trial_26 : decode cX6_trial 26 = .ok (.iastore, 1) := by decide +kernel
theorem dX6_trial_27 : decode cX6_trial 27 = .ok (.aload_n 0, 1) := by decide +kernel
theorem dX6_trial_28 : decode cX6_trial 28 = .ok (.getfield 43, 3) := by decide +kernel
theorem dX6_trial_31 : decode cX6_trial 31 = .ok (.iload_n 3, 1) := by decide +kernel
theorem dX6_trial_32 : decode cX6_trial 32 = .ok (.iconst 0, 1) := by decide +kernel
theorem dX6_trial_33 : decode cX6_trial 33 = .ok (.iastore, 1) := by decide +kernel
theorem dX6_trial_34 : decode cX6_trial 34 = .ok (.iinc 3 1, 3) := by decide +kernel
theorem dX6_trial_37 : decode cX6_trial 37 = .ok (.goto (-25), 3) := by decide +kernel
theorem dX6_trial_40 : decode cX6_trial 40 = .ok (.iconst 0, 1) := by decide +kernel
theorem dX6_trial_41 : decode cX6_trial 41 = .ok (.istore_n 3, 1) := by decide +kernel
theorem dX6_trial_42 : decode cX6_trial 42 = .ok (.iconst 0, 1) := by decide +kernel
theorem dX6_trial_43 : decode cX6_trial 43 = .ok (.istore 4, 2) := by decide +kernel
theorem dX6_trial_45 : decode cX6_trial 45 = .ok (.iload 4, 2) := by decide +kernel
theorem dX6_trial_47 : decode cX6_trial 47 = .ok (.aload_n 0, 1) := by decide +kernel
theorem dX6_trial_48 : decode cX6_trial 48 = .ok (.getfield 120, 3) := by decide +kernel
theorem dX6_trial_51 : decode cX6_trial 51 = .ok (.if_icmp .ge 97, 3) := by decide +kernel
theorem dX6_trial_54 : decode cX6_trial 54 = .ok (.iconst 0, 1) := by decide +kernel
theorem dX6_trial_55 : decode cX6_trial 55 = .ok (.istore 5, 2) := by decide +kernel
theorem dX6_trial_57 : decode cX6_trial 57 = .ok (.iload 5, 2) := by decide +kernel
theorem dX6_trial_59 : decode cX6_trial 59 = .ok (.aload_n 0, 1) := by decide +kernel
theorem dX6_trial_60 : decode cX6_trial 60 = .ok (.getfield 100, 3) := by decide +kernel
theorem dX6_trial_63 : decode cX6_trial 63 = .ok (.if_icmp .ge 32, 3) := by decide +kernel
theorem dX6_trial_66 : decode cX6_trial 66 = .ok (.aload_n 0, 1) := by decide +kernel
theorem dX6_trial_67 : decode cX6_trial 67 = .ok (.getfield 40, 3) := by decide +kernel
theorem dX6_trial_70 : decode cX6_trial 70 = .ok (.iload 5, 2) := by decide +kernel
theorem dX6_trial_72 : decode cX6_trial 72 = .ok (.dup2, 1) := by decide +kernel
theorem dX6_trial_73 : decode cX6_trial 73 = .ok (.iaload, 1) := by decide +kernel
theorem dX6_trial_74 : decode cX6_trial 74 = .ok (.aload_n 0, 1) := by decide +kernel
theorem dX6_trial_75 : decode cX6_trial 75 = .ok (.getfield 65, 3) := by decide +kernel
theorem dX6_trial_78 : decode cX6_trial 78 = .ok (.bipush 6, 2) := by decide +kernel
theorem dX6_trial_80 : decode cX6_trial 80 = .ok (.iload 4, 2) := by decide +kernel
theorem dX6_trial_82 : decode cX6_trial 82 = .ok (.imul, 1) := by decide +kernel
theorem dX6_trial_83 : decode cX6_trial 83 = .ok (.iload 5, 2) := by decide +kernel
theorem dX6_trial_85 : decode cX6_trial 85 = .ok (.iadd, 1) := by decide +kernel
theorem dX6_trial_86 : decode cX6_trial 86 = .ok (.iaload, 1) := by decide +kernel
theorem dX6_trial_87 : decode cX6_trial 87 = .ok (.iadd, 1) := by decide +kernel
theorem dX6_trial_88 : decode cX6_trial 88 = .ok (.iastore, 1) := by decide +kernel
theorem dX6_trial_89 : decode cX6_trial 89 = .ok (.iinc 5 1, 3) := by decide +kernel
theorem dX6_trial_92 : decode cX6_trial 92 = .ok (.goto (-35), 3) := by decide +kernel
theorem dX6_trial_95 : decode cX6_trial 95 = .ok (.aload_n 0, 1) := by decide +kernel
theorem dX6_trial_96 : decode cX6_trial 96 = .ok (.aload_n 0, 1) := by decide +kernel
theorem dX6_trial_97 : decode cX6_trial 97 = .ok (.getfield 40, 3) := by decide +kernel
theorem dX6_trial_100 : decode cX6_trial 100 = .ok (.aload_n 0, 1) := by decide +kernel
theorem dX6_trial_101 : decode cX6_trial 101 = .ok (.getfield 43, 3) := by decide +kernel
theorem dX6_trial_104 : decode cX6_trial 104 = .ok (.invokevirtual 154, 3) := by decide +kernel
theorem dX6_trial_107 : decode cX6_trial 107 = .ok (.pop, 1) := by decide +kernel
theorem dX6_trial_108 : decode cX6_trial 108 = .ok (.iconst 0, 1) := by decide +kernel
theorem dX6_trial_109 : decode cX6_trial 109 = .ok (.istore 5, 2) := by decide +kernel
theorem dX6_trial_111 : decode cX6_trial 111 = .ok (.iload 5, 2) := by decide +kernel
theorem dX6_trial_113 : decode cX6_trial 113 = .ok (.aload_n 0, 1) := by decide +kernel
theorem dX6_trial_114 : decode cX6_trial 114 = .ok (.getfield 100, 3) := by decide +kernel
theorem dX6_trial_117 : decode cX6_trial 117 = .ok (.if_icmp .ge 25, 3) := by decide +kernel
theorem dX6_trial_120 : decode cX6_trial 120 = .ok (.iload_n 3, 1) := by decide +kernel
theorem dX6_trial_121 : decode cX6_trial 121 = .ok (.aload_n 0, 1) := by decide +kernel
theorem dX6_trial_122 : decode cX6_trial 122 = .ok (.iload 5, 2) := by decide +kernel
theorem dX6_trial_124 : decode cX6_trial 124 = .ok (.aload_n 0, 1) := by decide +kernel
theorem dX6_trial_125 : decode cX6_trial 125 = .ok (.getfield 43, 3) := by decide +kernel
theorem dX6_trial_128 : decode cX6_trial 128 = .ok (.iload 5, 2) := by decide +kernel
theorem dX6_trial_130 : decode cX6_trial 130 = .ok (.iaload, 1) := by decide +kernel
theorem dX6_trial_131 : decode cX6_trial 131 = .ok (.invokevirtual 182, 3) := by decide +kernel
theorem dX6_trial_134 : decode cX6_trial 134 = .ok (.iadd, 1) := by decide +kernel
theorem dX6_trial_135 : decode cX6_trial 135 = .ok (.istore_n 3, 1) := by decide +kernel
theorem dX6_trial_136 : decode cX6_trial 136 = .ok (.iinc 5 1, 3) := by decide +kernel
theorem dX6_trial_139 : decode cX6_trial 139 = .ok (.goto (-28), 3) := by decide +kernel
theorem dX6_trial_142 : decode cX6_trial 142 = .ok (.iinc 4 1, 3) := by decide +kernel
theorem dX6_trial_145 : decode cX6_trial 145 = .ok (.goto (-100), 3) := by decide +kernel
theorem dX6_trial_148 : decode cX6_trial 148 = .ok (.aload_n 0, 1) := by decide +kernel
theorem dX6_trial_149 : decode cX6_trial 149 = .ok (.iconst (-1), 1) := by decide +kernel
theorem dX6_trial_150 : decode cX6_trial 150 = .ok (.putfield 89, 3) := by decide +kernel
theorem dX6_trial_153 : decode cX6_trial 153 = .ok (.iload_n 3, 1) := by decide +kernel
theorem dX6_trial_154 : decode cX6_trial 154 = .ok (.ireturn, 1) := by decide +kernel
theorem dX6_floodedWith_0 : decode cX6_floodedWith 0 = .ok (.aload_n 0, 1) := by decide +kernel
theorem dX6_floodedWith_1 : decode cX6_floodedWith 1 = .ok (.aload_n 0, 1) := by decide +kernel
theorem dX6_floodedWith_2 : decode cX6_floodedWith 2 = .ok (.iconst (-1), 1) := by decide +kernel
theorem dX6_floodedWith_3 : decode cX6_floodedWith 3 = .ok (.iconst 0, 1) := by decide +kernel
theorem dX6_floodedWith_4 : decode cX6_floodedWith 4 = .ok (.invokevirtual 204, 3) := by decide +kernel
theorem dX6_floodedWith_7 : decode cX6_floodedWith 7 = .ok (.invokevirtual 123, 3) := by decide +kernel
theorem dX6_floodedWith_10 : decode cX6_floodedWith 10 = .ok (.ireturn, 1) := by decide +kernel
theorem dX6_floodedWithOpening_0 : decode cX6_floodedWithOpening 0 = .ok (.aload_n 0, 1) := by decide +kernel
theorem dX6_floodedWithOpening_1 : decode cX6_floodedWithOpening 1 = .ok (.aload_n 0, 1) := by decide +kernel
theorem dX6_floodedWithOpening_2 : decode cX6_floodedWithOpening 2 = .ok (.iload_n 1, 1) := by decide +kernel
theorem dX6_floodedWithOpening_3 : decode cX6_floodedWithOpening 3 = .ok (.invokevirtual 107, 3) := by decide +kernel
theorem dX6_floodedWithOpening_6 : decode cX6_floodedWithOpening 6 = .ok (.ifCond .eq 7, 3) := by decide +kernel
theorem dX6_floodedWithOpening_9 : decode cX6_floodedWithOpening 9 = .ok (.iconst 1, 1) := by decide +kernel
theorem dX6_floodedWithOpening_10 : decode cX6_floodedWithOpening 10 = .ok (.goto 18, 3) := by decide +kernel
theorem dX6_floodedWithOpening_13 : decode cX6_floodedWithOpening 13 = .ok (.iload_n 2, 1) := by decide +kernel
theorem dX6_floodedWithOpening_14 : decode cX6_floodedWithOpening 14 = .ok (.iconst 0, 1) := by decide +kernel
theorem dX6_floodedWithOpening_15 : decode cX6_floodedWithOpening 15 = .ok (.bipush 10, 2) := by decide +kernel
theorem dX6_floodedWithOpening_17 : decode cX6_floodedWithOpening 17 = .ok (.invokestatic 103, 3) := by decide +kernel
theorem dX6_floodedWithOpening_20 : decode cX6_floodedWithOpening 20 = .ok (.ifCond .eq 7, 3) := by decide +kernel
theorem dX6_floodedWithOpening_23 : decode cX6_floodedWithOpening 23 = .ok (.iconst 0, 1) := by decide +kernel
theorem dX6_floodedWithOpening_24 : decode cX6_floodedWithOpening 24 = .ok (.goto 4, 3) := by decide +kernel
theorem dX6_floodedWithOpening_27 : decode cX6_floodedWithOpening 27 = .ok (.iconst 2, 1) := by decide +kernel
theorem dX6_floodedWithOpening_28 : decode cX6_floodedWithOpening 28 = .ok (.invokevirtual 114, 3) := by decide +kernel
theorem dX6_floodedWithOpening_31 : decode cX6_floodedWithOpening 31 = .ok (.ifCond .eq 7, 3) := by decide +kernel
theorem dX6_floodedWithOpening_34 : decode cX6_floodedWithOpening 34 = .ok (.iconst 0, 1) := by decide +kernel
theorem dX6_floodedWithOpening_35 : decode cX6_floodedWithOpening 35 = .ok (.goto 9, 3) := by decide +kernel
theorem dX6_floodedWithOpening_38 : decode cX6_floodedWithOpening 38 = .ok (.aload_n 0, 1) := by decide +kernel
theorem dX6_floodedWithOpening_39 : decode cX6_floodedWithOpening 39 = .ok (.iload_n 1, 1) := by decide +kernel
theorem dX6_floodedWithOpening_40 : decode cX6_floodedWithOpening 40 = .ok (.iload_n 2, 1) := by decide +kernel
theorem dX6_floodedWithOpening_41 : decode cX6_floodedWithOpening 41 = .ok (.invokevirtual 204, 3) := by decide +kernel
theorem dX6_floodedWithOpening_44 : decode cX6_floodedWithOpening 44 = .ok (.ireturn, 1) := by decide +kernel
theorem dX6_bestOpening_0 : decode cX6_bestOpening 0 = .ok (.aload_n 0, 1) := by decide +kernel
theorem dX6_bestOpening_1 : decode cX6_bestOpening 1 = .ok (.aload_n 0, 1) := by decide +kernel
theorem dX6_bestOpening_2 : decode cX6_bestOpening 2 = .ok (.iload_n 1, 1) := by decide +kernel
theorem dX6_bestOpening_3 : decode cX6_bestOpening 3 = .ok (.invokevirtual 107, 3) := by decide +kernel
theorem dX6_bestOpening_6 : decode cX6_bestOpening 6 = .ok (.ifCond .eq 7, 3) := by decide +kernel
theorem dX6_bestOpening_9 : decode cX6_bestOpening 9 = .ok (.iconst 1, 1) := by decide +kernel
theorem dX6_bestOpening_10 : decode cX6_bestOpening 10 = .ok (.goto 4, 3) := by decide +kernel
theorem dX6_bestOpening_13 : decode cX6_bestOpening 13 = .ok (.iconst 0, 1) := by decide +kernel
theorem dX6_bestOpening_14 : decode cX6_bestOpening 14 = .ok (.invokevirtual 114, 3) := by decide +kernel
theorem dX6_bestOpening_17 : decode cX6_bestOpening 17 = .ok (.ifCond .eq 5, 3) := by decide +kernel
theorem dX6_bestOpening_20 : decode cX6_bestOpening 20 = .ok (.iconst 0, 1) := by decide +kernel
theorem dX6_bestOpening_21 : decode cX6_bestOpening 21 = .ok (.ireturn, 1) := by decide +kernel
theorem dX6_bestOpening_22 : decode cX6_bestOpening 22 = .ok (.iconst 0, 1) := by decide +kernel
theorem dX6_bestOpening_23 : decode cX6_bestOpening 23 = .ok (.istore_n 2, 1) := by decide +kernel
theorem dX6_bestOpening_24 : decode cX6_bestOpening 24 = .ok (.aload_n 0, 1) := by decide +kernel
theorem dX6_bestOpening_25 : decode cX6_bestOpening 25 = .ok (.iload_n 1, 1) := by decide +kernel
theorem dX6_bestOpening_26 : decode cX6_bestOpening 26 = .ok (.iconst 0, 1) := by decide +kernel
theorem dX6_bestOpening_27 : decode cX6_bestOpening 27 = .ok (.invokevirtual 204, 3) := by decide +kernel
theorem dX6_bestOpening_30 : decode cX6_bestOpening 30 = .ok (.istore_n 3, 1) := by decide +kernel
theorem dX6_bestOpening_31 : decode cX6_bestOpening 31 = .ok (.iconst 1, 1) := by decide +kernel
theorem dX6_bestOpening_32 : decode cX6_bestOpening 32 = .ok (.istore 4, 2) := by decide +kernel
theorem dX6_bestOpening_34 : decode cX6_bestOpening 34 = .ok (.iload 4, 2) := by decide +kernel
theorem dX6_bestOpening_36 : decode cX6_bestOpening 36 = .ok (.bipush 11, 2) := by decide +kernel
theorem dX6_bestOpening_38 : decode cX6_bestOpening 38 = .ok (.if_icmp .ge 33, 3) := by decide +kernel
theorem dX6_bestOpening_41 : decode cX6_bestOpening 41 = .ok (.aload_n 0, 1) := by decide +kernel
theorem dX6_bestOpening_42 : decode cX6_bestOpening 42 = .ok (.iload_n 1, 1) := by decide +kernel
theorem dX6_bestOpening_43 : decode cX6_bestOpening 43 = .ok (.iload 4, 2) := by decide +kernel
theorem dX6_bestOpening_45 : decode cX6_bestOpening 45 = .ok (.invokevirtual 204, 3) := by decide +kernel
theorem dX6_bestOpening_48 : decode cX6_bestOpening 48 = .ok (.istore 5, 2) := by decide +kernel
theorem dX6_bestOpening_50 : decode cX6_bestOpening 50 = .ok (.iload 5, 2) := by decide +kernel
theorem dX6_bestOpening_52 : decode cX6_bestOpening 52 = .ok (.iload_n 3, 1) := by decide +kernel
theorem dX6_bestOpening_53 : decode cX6_bestOpening 53 = .ok (.if_icmp .lt 6, 3) := by decide +kernel
theorem dX6_bestOpening_56 : decode cX6_bestOpening 56 = .ok (.goto 9, 3) := by decide +kernel
theorem dX6_bestOpening_59 : decode cX6_bestOpening 59 = .ok (.iload 5, 2) := by decide +kernel
theorem dX6_bestOpening_61 : decode cX6_bestOpening 61 = .ok (.istore_n 3, 1) := by decide +kernel
theorem dX6_bestOpening_62 : decode cX6_bestOpening 62 = .ok (.iload 4, 2) := by decide +kernel
theorem dX6_bestOpening_64 : decode cX6_bestOpening 64 = .ok (.istore_n 2, 1) := by decide +kernel
theorem dX6_bestOpening_65 : decode cX6_bestOpening 65 = .ok (.iinc 4 1, 3) := by decide +kernel
theorem dX6_bestOpening_68 : decode cX6_bestOpening 68 = .ok (.goto (-34), 3) := by decide +kernel
theorem dX6_bestOpening_71 : decode cX6_bestOpening 71 = .ok (.iload_n 2, 1) := by decide +kernel
theorem dX6_bestOpening_72 : decode cX6_bestOpening 72 = .ok (.ireturn, 1) := by decide +kernel
theorem dX6_puts_0 : decode cX6_puts 0 = .ok (.aload_n 0, 1) := by decide +kernel
theorem dX6_puts_1 : decode cX6_puts 1 = .ok (.getfield 93, 3) := by decide +kernel
theorem dX6_puts_4 : decode cX6_puts 4 = .ok (.aload_n 0, 1) := by decide +kernel
theorem dX6_puts_5 : decode cX6_puts 5 = .ok (.getfield 207, 3) := by decide +kernel
theorem dX6_puts_8 : decode cX6_puts 8 = .ok (.iload_n 1, 1) := by decide +kernel
theorem dX6_puts_9 : decode cX6_puts 9 = .ok (.castore, 1) := by decide +kernel
theorem dX6_puts_10 : decode cX6_puts 10 = .ok (.aload_n 0, 1) := by decide +kernel
theorem dX6_puts_11 : decode cX6_puts 11 = .ok (.dup, 1) := by decide +kernel
theorem dX6_puts_12 : decode cX6_puts 12 = .ok (.getfield 207, 3) := by decide +kernel
theorem dX6_puts_15 : decode cX6_puts 15 = .ok (.iconst 1, 1) := by decide +kernel
theorem dX6_puts_16 : decode cX6_puts 16 = .ok (.iadd, 1) := by decide +kernel
theorem dX6_puts_17 : decode cX6_puts 17 = .ok (.putfield 207, 3) := by decide +kernel
theorem dX6_puts_20 : decode cX6_puts 20 = .ok (.return_, 1) := by decide +kernel
theorem dX6_putsNumber_0 : decode cX6_putsNumber 0 = .ok (.iload_n 1, 1) := by decide +kernel
theorem dX6_putsNumber_1 : decode cX6_putsNumber 1 = .ok (.bipush 10, 2) := by decide +kernel
theorem dX6_putsNumber_3 : decode cX6_putsNumber 3 = .ok (.if_icmp .lt 15, 3) := by decide +kernel
theorem dX6_putsNumber_6 : decode cX6_putsNumber 6 = .ok (.aload_n 0, 1) := by decide +kernel
theorem dX6_putsNumber_7 : decode cX6_putsNumber 7 = .ok (.bipush 48, 2) := by decide +kernel
theorem dX6_putsNumber_9 : decode cX6_putsNumber 9 = .ok (.iload_n 1, 1) := by decide +kernel
theorem dX6_putsNumber_10 : decode cX6_putsNumber 10 = .ok (.bipush 10, 2) := by decide +kernel
theorem dX6_putsNumber_12 : decode cX6_putsNumber 12 = .ok (.idiv, 1) := by decide +kernel
theorem dX6_putsNumber_13 : decode cX6_putsNumber 13 = .ok (.iadd, 1) := by decide +kernel
theorem dX6_putsNumber_14 : decode cX6_putsNumber 14 = .ok (.i2c, 1) := by decide +kernel
theorem dX6_putsNumber_15 : decode cX6_putsNumber 15 = .ok (.invokevirtual 210, 3) := by decide +kernel
theorem dX6_putsNumber_18 : decode cX6_putsNumber 18 = .ok (.aload_n 0, 1) := by decide +kernel
theorem dX6_putsNumber_19 : decode cX6_putsNumber 19 = .ok (.bipush 48, 2) := by decide +kernel
theorem dX6_putsNumber_21 : decode cX6_putsNumber 21 = .ok (.iload_n 1, 1) := by decide +kernel
theorem dX6_putsNumber_22 : decode cX6_putsNumber 22 = .ok (.bipush 10, 2) := by decide +kernel
theorem dX6_putsNumber_24 : decode cX6_putsNumber 24 = .ok (.irem, 1) := by decide +kernel
theorem dX6_putsNumber_25 : decode cX6_putsNumber 25 = .ok (.iadd, 1) := by decide +kernel
theorem dX6_putsNumber_26 : decode cX6_putsNumber 26 = .ok (.i2c, 1) := by decide +kernel
theorem dX6_putsNumber_27 : decode cX6_putsNumber 27 = .ok (.invokevirtual 210, 3) := by decide +kernel
theorem dX6_putsNumber_30 : decode cX6_putsNumber 30 = .ok (.return_, 1) := by decide +kernel
theorem dX6_writeRule_0 : decode cX6_writeRule 0 = .ok (.aload_n 0, 1) := by decide +kernel
theorem dX6_writeRule_1 : decode cX6_writeRule 1 = .ok (.iload_n 1, 1) := by decide +kernel
theorem dX6_writeRule_2 : decode cX6_writeRule 2 = .ok (.invokevirtual 130, 3) := by decide +kernel
theorem dX6_writeRule_5 : decode cX6_writeRule 5 = .ok (.ifCond .eq 5, 3) := by decide +kernel
theorem dX6_writeRule_8 : decode cX6_writeRule 8 = .ok (.iconst 0, 1) := by decide +kernel
theorem dX6_writeRule_9 : decode cX6_writeRule 9 = .ok (.ireturn, 1) := by decide +kernel
theorem dX6_writeRule_10 : decode cX6_writeRule 10 = .ok (.aload_n 0, 1) := by decide +kernel
theorem dX6_writeRule_11 : decode cX6_writeRule 11 = .ok (.iconst 0, 1) := by decide +kernel
theorem dX6_writeRule_12 : decode cX6_writeRule 12 = .ok (.putfield 207, 3) := by decide +kernel
theorem dX6_writeRule_15 : decode cX6_writeRule 15 = .ok (.aload_n 0, 1) := by decide +kernel
theorem dX6_writeRule_16 : decode cX6_writeRule 16 = .ok (.aload_n 0, 1) := by decide +kernel
theorem dX6_writeRule_17 : decode cX6_writeRule 17 = .ok (.getfield 49, 3) := by decide +kernel
theorem dX6_writeRule_20 : decode cX6_writeRule 20 = .ok (.iload_n 1, 1) := by decide +kernel
theorem dX6_writeRule_21 : decode cX6_writeRule 21 = .ok (.iaload, 1) := by decide +kernel
theorem dX6_writeRule_22 : decode cX6_writeRule 22 = .ok (.invokevirtual 214, 3) := by decide +kernel
theorem dX6_writeRule_25 : decode cX6_writeRule 25 = .ok (.aload_n 0, 1) := by decide +kernel
theorem dX6_writeRule_26 : decode cX6_writeRule 26 = .ok (.bipush 58, 2) := by decide +kernel
theorem dX6_writeRule_28 : decode cX6_writeRule 28 = .ok (.invokevirtual 210, 3) := by decide +kernel
theorem dX6_writeRule_31 : decode cX6_writeRule 31 = .ok (.aload_n 0, 1) := by decide +kernel
theorem dX6_writeRule_32 : decode cX6_writeRule 32 = .ok (.aload_n 0, 1) := by decide +kernel
theorem dX6_writeRule_33 : decode cX6_writeRule 33 = .ok (.getfield 52, 3) := by decide +kernel
theorem dX6_writeRule_36 : decode cX6_writeRule 36 = .ok (.iload_n 1, 1) := by decide +kernel
theorem dX6_writeRule_37 : decode cX6_writeRule 37 = .ok (.iaload, 1) := by decide +kernel
theorem dX6_writeRule_38 : decode cX6_writeRule 38 = .ok (.invokevirtual 214, 3) := by decide +kernel
theorem dX6_writeRule_41 : decode cX6_writeRule 41 = .ok (.aload_n 0, 1) := by decide +kernel
theorem dX6_writeRule_42 : decode cX6_writeRule 42 = .ok (.aload_n 0, 1) := by decide +kernel
theorem dX6_writeRule_43 : decode cX6_writeRule 43 = .ok (.getfield 55, 3) := by decide +kernel
theorem dX6_writeRule_46 : decode cX6_writeRule 46 = .ok (.iload_n 1, 1) := by decide +kernel
theorem dX6_writeRule_47 : decode cX6_writeRule 47 = .ok (.baload, 1) := by decide +kernel
theorem dX6_writeRule_48 : decode cX6_writeRule 48 = .ok (.ifCond .eq 8, 3) := by decide +kernel
theorem dX6_writeRule_51 : decode cX6_writeRule 51 = .ok (.bipush 62, 2) := by decide +kernel
theorem dX6_writeRule_53 : decode cX6_writeRule 53 = .ok (.goto 5, 3) := by decide +kernel
theorem dX6_writeRule_56 : decode cX6_writeRule 56 = .ok (.bipush 60, 2) := by decide +kernel
theorem dX6_writeRule_58 : decode cX6_writeRule 58 = .ok (.invokevirtual 210, 3) := by decide +kernel
theorem dX6_writeRule_61 : decode cX6_writeRule 61 = .ok (.aload_n 0, 1) := by decide +kernel
theorem dX6_writeRule_62 : decode cX6_writeRule 62 = .ok (.aload_n 0, 1) := by decide +kernel
theorem dX6_writeRule_63 : decode cX6_writeRule 63 = .ok (.getfield 59, 3) := by decide +kernel
theorem dX6_writeRule_66 : decode cX6_writeRule 66 = .ok (.iload_n 1, 1) := by decide +kernel
theorem dX6_writeRule_67 : decode cX6_writeRule 67 = .ok (.iaload, 1) := by decide +kernel
theorem dX6_writeRule_68 : decode cX6_writeRule 68 = .ok (.invokevirtual 214, 3) := by decide +kernel
theorem dX6_writeRule_71 : decode cX6_writeRule 71 = .ok (.aload_n 0, 1) := by decide +kernel
theorem dX6_writeRule_72 : decode cX6_writeRule 72 = .ok (.bipush 61, 2) := by decide +kernel
theorem dX6_writeRule_74 : decode cX6_writeRule 74 = .ok (.invokevirtual 210, 3) := by decide +kernel
theorem dX6_writeRule_77 : decode cX6_writeRule 77 = .ok (.aload_n 0, 1) := by decide +kernel
theorem dX6_writeRule_78 : decode cX6_writeRule 78 = .ok (.aload_n 0, 1) := by decide +kernel
theorem dX6_writeRule_79 : decode cX6_writeRule 79 = .ok (.getfield 62, 3) := by decide +kernel
theorem dX6_writeRule_82 : decode cX6_writeRule 82 = .ok (.iload_n 1, 1) := by decide +kernel
theorem dX6_writeRule_83 : decode cX6_writeRule 83 = .ok (.iaload, 1) := by decide +kernel
theorem dX6_writeRule_84 : decode cX6_writeRule 84 = .ok (.invokevirtual 214, 3) := by decide +kernel
theorem dX6_writeRule_87 : decode cX6_writeRule 87 = .ok (.aload_n 0, 1) := by decide +kernel
theorem dX6_writeRule_88 : decode cX6_writeRule 88 = .ok (.getfield 207, 3) := by decide +kernel
theorem dX6_writeRule_91 : decode cX6_writeRule 91 = .ok (.ireturn, 1) := by decide +kernel
theorem dX6_lineAt_0 : decode cX6_lineAt 0 = .ok (.aload_n 0, 1) := by decide +kernel
theorem dX6_lineAt_1 : decode cX6_lineAt 1 = .ok (.iload_n 1, 1) := by decide +kernel
theorem dX6_lineAt_2 : decode cX6_lineAt 2 = .ok (.iconst 0, 1) := by decide +kernel
theorem dX6_lineAt_3 : decode cX6_lineAt 3 = .ok (.aload_n 0, 1) := by decide +kernel
theorem dX6_lineAt_4 : decode cX6_lineAt 4 = .ok (.getfield 207, 3) := by decide +kernel
theorem dX6_lineAt_7 : decode cX6_lineAt 7 = .ok (.iconst 1, 1) := by decide +kernel
theorem dX6_lineAt_8 : decode cX6_lineAt 8 = .ok (.isub, 1) := by decide +kernel
theorem dX6_lineAt_9 : decode cX6_lineAt 9 = .ok (.invokestatic 103, 3) := by decide +kernel
theorem dX6_lineAt_12 : decode cX6_lineAt 12 = .ok (.ifCond .eq 7, 3) := by decide +kernel
theorem dX6_lineAt_15 : decode cX6_lineAt 15 = .ok (.iconst 0, 1) := by decide +kernel
theorem dX6_lineAt_16 : decode cX6_lineAt 16 = .ok (.goto 4, 3) := by decide +kernel
theorem dX6_lineAt_19 : decode cX6_lineAt 19 = .ok (.iconst 1, 1) := by decide +kernel
theorem dX6_lineAt_20 : decode cX6_lineAt 20 = .ok (.invokevirtual 114, 3) := by decide +kernel
theorem dX6_lineAt_23 : decode cX6_lineAt 23 = .ok (.ifCond .eq 8, 3) := by decide +kernel
theorem dX6_lineAt_26 : decode cX6_lineAt 26 = .ok (.bipush 32, 2) := by decide +kernel
theorem dX6_lineAt_28 : decode cX6_lineAt 28 = .ok (.goto 9, 3) := by decide +kernel
theorem dX6_lineAt_31 : decode cX6_lineAt 31 = .ok (.aload_n 0, 1) := by decide +kernel
theorem dX6_lineAt_32 : decode cX6_lineAt 32 = .ok (.getfield 93, 3) := by decide +kernel
theorem dX6_lineAt_35 : decode cX6_lineAt 35 = .ok (.iload_n 1, 1) := by decide +kernel
theorem dX6_lineAt_36 : decode cX6_lineAt 36 = .ok (.caload, 1) := by decide +kernel
theorem dX6_lineAt_37 : decode cX6_lineAt 37 = .ok (.ireturn, 1) := by decide +kernel
