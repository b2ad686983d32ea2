theorem dL_cell_0 : decode cL_cell 0 = .ok (.iload_n 1, 1) := by decide +kernel
theorem dL_cell_1 : decode cL_cell 1 = .ok (.aload_n 0, 1) := by decide +kernel
theorem dL_cell_2 : decode cL_cell 2 = .ok (.arraylength, 1) := by decide +kernel
theorem dL_cell_3 : decode cL_cell 3 = .ok (.if_icmp .ge 9, 3) := by decide +kernel
theorem dL_cell_6 : decode cL_cell 6 = .ok (.aload_n 0, 1) := by decide +kernel
theorem dL_cell_7 : decode cL_cell 7 = .ok (.iload_n 1, 1) := by decide +kernel
theorem dL_cell_8 : decode cL_cell 8 = .ok (.iaload, 1) := by decide +kernel
theorem dL_cell_9 : decode cL_cell 9 = .ok (.goto 15, 3) := by decide +kernel
theorem dL_cell_12 : decode cL_cell 12 = .ok (.sipush 7919, 3) := by decide +kernel
theorem dL_cell_15 : decode cL_cell 15 = .ok (.iload_n 1, 1) := by decide +kernel
theorem dL_cell_16 : decode cL_cell 16 = .ok (.iconst 3, 1) := by decide +kernel
theorem dL_cell_17 : decode cL_cell 17 = .ok (.iadd, 1) := by decide +kernel
theorem dL_cell_18 : decode cL_cell 18 = .ok (.imul, 1) := by decide +kernel
theorem dL_cell_19 : decode cL_cell 19 = .ok (.iload_n 1, 1) := by decide +kernel
theorem dL_cell_20 : decode cL_cell 20 = .ok (.bipush 11, 2) := by decide +kernel
theorem dL_cell_22 : decode cL_cell 22 = .ok (.iadd, 1) := by decide +kernel
theorem dL_cell_23 : decode cL_cell 23 = .ok (.imul, 1) := by decide +kernel
theorem dL_cell_24 : decode cL_cell 24 = .ok (.ireturn, 1) := by decide +kernel
theorem dL_low_0 : decode cL_low 0 = .ok (.iload_n 0, 1) := by decide +kernel
theorem dL_low_1 : decode cL_low 1 = .ok (.ldc 7, 2) := by decide +kernel
theorem dL_low_3 : decode cL_low 3 = .ok (.iand, 1) := by decide +kernel
theorem dL_low_4 : decode cL_low 4 = .ok (.iload_n 1, 1) := by decide +kernel
theorem dL_low_5 : decode cL_low 5 = .ok (.irem, 1) := by decide +kernel
theorem dL_low_6 : decode cL_low 6 = .ok (.ireturn, 1) := by decide +kernel
set_option maxRecDepth 20000 in
theorem ggL_areShares_X6_rose : GoodIn wsL_areShares wsX6_rose := goodIn_r _ [5, 6, 7, 8, 4, 9, 10, 11, 12, 13, 14, 15, 16, 17, 18, 19, 20, 21, 22, 23, 24, 25, 26, 27, 28, 29, 30, 31, 32, 33, 34, 35, 36, 37, 38, 39, 40, 41, 42, 43, 44, 45, 46, 47, 48, 49, 50, 51, 52, 53, 54, 55, 56, 57, 58, 59, 60, 61, 62, 63, 64, 65, 66, 67, 68, 69, 70, 71, 72, 73, 74, 75, 76, 77, 78, 79, 138, 139, 140, 141, 142, 143, 144, 145, 146, 147, 148] (by decide +kernel) (by decide +kernel)
set_option maxRecDepth 20000 in
theorem gL_areShares_X6_rose : GoodIn wsL_areShares (wsV RL 8 RX6 yX6_rose wsX6_rose) := goodIn_app (goodIn_of _ (by decide +kernel)) ggL_areShares_X6_rose
set_option maxRecDepth 20000 in
theorem ggL_areShares_X6_hours : GoodIn wsL_areShares wsX6_hours := goodIn_r _ [83, 6, 7, 8, 4, 9, 10, 11, 12, 84, 85, 86, 13, 14, 15, 76, 77, 78, 19, 79, 68, 69, 70, 71, 25, 87, 88, 89, 90, 61, 62, 63, 64, 65, 66, 67, 138, 139, 140, 141, 142, 143, 144, 145, 146, 147, 148] (by decide +kernel) (by decide +kernel)
set_option maxRecDepth 20000 in
theorem gL_areShares_X6_hours : GoodIn wsL_areShares (wsV RL 14 RX6 yX6_hours wsX6_hours) := goodIn_app (goodIn_of _ (by decide +kernel)) ggL_areShares_X6_hours
set_option maxRecDepth 20000 in
theorem ggL_areShares_X6_share : GoodIn wsL_areShares wsX6_share := goodIn_r _ [94, 95, 6, 96, 97, 98, 4, 99, 7, 8, 9, 10, 11, 12, 84, 85, 86, 87, 88, 89, 13, 14, 15, 100, 101, 102, 103, 104, 105, 106, 107, 108, 109, 110, 111, 112, 22, 23, 19, 24, 25, 113, 114, 115, 116, 117, 118, 119, 61, 62, 63, 64, 65, 66, 67, 68, 69, 70, 71, 120, 121, 122, 123, 124, 138, 139, 140, 141, 142, 143, 144, 145, 146, 149, 150, 151, 152, 147, 148] (by decide +kernel) (by decide +kernel)
set_option maxRecDepth 20000 in
theorem gL_areShares_X6_share : GoodIn wsL_areShares (wsV RL 18 RX6 yX6_share wsX6_share) := goodIn_app (goodIn_of _ (by decide +kernel)) ggL_areShares_X6_share
set_option maxRecDepth 20000 in
theorem ggL_areShares_X6_dealt : GoodIn wsL_areShares wsX6_dealt := goodIn_r _ [128, 95, 6, 96, 97, 98, 4, 99, 7, 8, 9, 10, 11, 12, 84, 85, 86, 87, 88, 89, 13, 14, 15, 129, 130, 131, 103, 132, 133, 106, 108, 109, 110, 111, 107, 105, 112, 22, 23, 19, 24, 25, 113, 114, 115, 116, 117, 118, 119, 61, 62, 63, 64, 65, 66, 67, 68, 69, 70, 71, 134, 135, 136, 137, 124, 138, 139, 140, 141, 142, 143, 144, 145, 146, 149, 150, 151, 152, 147, 148] (by decide +kernel) (by decide +kernel)
set_option maxRecDepth 20000 in
theorem gL_areShares_X6_dealt : GoodIn wsL_areShares (wsV RL 21 RX6 yX6_dealt wsX6_dealt) := goodIn_app (goodIn_of _ (by decide +kernel)) ggL_areShares_X6_dealt
theorem dL_areShares_0 : decode cL_areShares 0 = .ok (.aload_n 0, 1) := by decide +kernel
theorem dL_areShares_1 : decode cL_areShares 1 = .ok (.iload_n 1, 1) := by decide +kernel
theorem dL_areShares_2 : decode cL_areShares 2 = .ok (.iload_n 2, 1) := by decide +kernel
theorem dL_areShares_3 : decode cL_areShares 3 = .ok (.iconst 1, 1) := by decide +kernel
theorem dL_areShares_4 : decode cL_areShares 4 = .ok (.invokevirtual 8, 3) := by decide +kernel
theorem dL_areShares_7 : decode cL_areShares 7 = .ok (.istore_n 3, 1) := by decide +kernel
theorem dL_areShares_8 : decode cL_areShares 8 = .ok (.aload_n 0, 1) := by decide +kernel
theorem dL_areShares_9 : decode cL_areShares 9 = .ok (.iload_n 1, 1) := by decide +kernel
theorem dL_areShares_10 : decode cL_areShares 10 = .ok (.iload_n 2, 1) := by decide +kernel
theorem dL_areShares_11 : decode cL_areShares 11 = .ok (.iconst 2, 1) := by decide +kernel
theorem dL_areShares_12 : decode cL_areShares 12 = .ok (.invokevirtual 8, 3) := by decide +kernel
theorem dL_areShares_15 : decode cL_areShares 15 = .ok (.istore 4, 2) := by decide +kernel
theorem dL_areShares_17 : decode cL_areShares 17 = .ok (.aload_n 0, 1) := by decide +kernel
theorem dL_areShares_18 : decode cL_areShares 18 = .ok (.iload_n 1, 1) := by decide +kernel
theorem dL_areShares_19 : decode cL_areShares 19 = .ok (.iload_n 2, 1) := by decide +kernel
theorem dL_areShares_20 : decode cL_areShares 20 = .ok (.iconst 0, 1) := by decide +kernel
theorem dL_areShares_21 : decode cL_areShares 21 = .ok (.invokevirtual 8, 3) := by decide +kernel
theorem dL_areShares_24 : decode cL_areShares 24 = .ok (.istore 5, 2) := by decide +kernel
theorem dL_areShares_26 : decode cL_areShares 26 = .ok (.iconst 0, 1) := by decide +kernel
theorem dL_areShares_27 : decode cL_areShares 27 = .ok (.istore 6, 2) := by decide +kernel
theorem dL_areShares_29 : decode cL_areShares 29 = .ok (.iconst 0, 1) := by decide +kernel
theorem dL_areShares_30 : decode cL_areShares 30 = .ok (.istore 7, 2) := by decide +kernel
theorem dL_areShares_32 : decode cL_areShares 32 = .ok (.bipush (-5), 2) := by decide +kernel
theorem dL_areShares_34 : decode cL_areShares 34 = .ok (.istore 8, 2) := by decide +kernel
theorem dL_areShares_36 : decode cL_areShares 36 = .ok (.iconst 0, 1) := by decide +kernel
theorem dL_areShares_37 : decode cL_areShares 37 = .ok (.istore 9, 2) := by decide +kernel
theorem dL_areShares_39 : decode cL_areShares 39 = .ok (.iconst 0, 1) := by decide +kernel
theorem dL_areShares_40 : decode cL_areShares 40 = .ok (.istore 10, 2) := by decide +kernel
theorem dL_areShares_42 : decode cL_areShares 42 = .ok (.iload 10, 2) := by decide +kernel
theorem dL_areShares_44 : decode cL_areShares 44 = .ok (.bipush 16, 2) := by decide +kernel
theorem dL_areShares_46 : decode cL_areShares 46 = .ok (.if_icmp .ge 209, 3) := by decide +kernel
theorem dL_areShares_49 : decode cL_areShares 49 = .ok (.aload_n 0, 1) := by decide +kernel
theorem dL_areShares_50 : decode cL_areShares 50 = .ok (.iload_n 1, 1) := by decide +kernel
theorem dL_areShares_51 : decode cL_areShares 51 = .ok (.iload_n 2, 1) := by decide +kernel
theorem dL_areShares_52 : decode cL_areShares 52 = .ok (.iload 10, 2) := by decide +kernel
theorem dL_areShares_54 : decode cL_areShares 54 = .ok (.iconst 3, 1) := by decide +kernel
theorem dL_areShares_55 : decode cL_areShares 55 = .ok (.invokevirtual 14, 3) := by decide +kernel
theorem dL_areShares_58 : decode cL_areShares 58 = .ok (.istore 11, 2) := by decide +kernel
theorem dL_areShares_60 : decode cL_areShares 60 = .ok (.iconst 0, 1) := by decide +kernel
theorem dL_areShares_61 : decode cL_areShares 61 = .ok (.istore 12, 2) := by decide +kernel
theorem dL_areShares_63 : decode cL_areShares 63 = .ok (.iconst 0, 1) := by decide +kernel
theorem dL_areShares_64 : decode cL_areShares 64 = .ok (.istore 13, 2) := by decide +kernel
theorem dL_areShares_66 : decode cL_areShares 66 = .ok (.iload 13, 2) := by decide +kernel
theorem dL_areShares_68 : decode cL_areShares 68 = .ok (.iconst 3, 1) := by decide +kernel
theorem dL_areShares_69 : decode cL_areShares 69 = .ok (.if_icmp .ge 132, 3) := by decide +kernel
theorem dL_areShares_72 : decode cL_areShares 72 = .ok (.aload_n 0, 1) := by decide +kernel
theorem dL_areShares_73 : decode cL_areShares 73 = .ok (.iload_n 1, 1) := by decide +kernel
theorem dL_areShares_74 : decode cL_areShares 74 = .ok (.iload_n 2, 1) := by decide +kernel
theorem dL_areShares_75 : decode cL_areShares 75 = .ok (.iload 10, 2) := by decide +kernel
theorem dL_areShares_77 : decode cL_areShares 77 = .ok (.iload 13, 2) := by decide +kernel
theorem dL_areShares_79 : decode cL_areShares 79 = .ok (.invokevirtual 14, 3) := by decide +kernel
theorem dL_areShares_82 : decode cL_areShares 82 = .ok (.istore 14, 2) := by decide +kernel
theorem dL_areShares_84 : decode cL_areShares 84 = .ok (.aload_n 0, 1) := by decide +kernel
theorem dL_areShares_85 : decode cL_areShares 85 = .ok (.iload_n 1, 1) := by decide +kernel
theorem dL_areShares_86 : decode cL_areShares 86 = .ok (.iload_n 2, 1) := by decide +kernel
theorem dL_areShares_87 : decode cL_areShares 87 = .ok (.iload 10, 2) := by decide +kernel
theorem dL_areShares_89 : decode cL_areShares 89 = .ok (.iload 13, 2) := by decide +kernel
theorem dL_areShares_91 : decode cL_areShares 91 = .ok (.invokevirtual 18, 3) := by decide +kernel
theorem dL_areShares_94 : decode cL_areShares 94 = .ok (.istore 15, 2) := by decide +kernel
theorem dL_areShares_96 : decode cL_areShares 96 = .ok (.iload_n 3, 1) := by decide +kernel
theorem dL_areShares_97 : decode cL_areShares 97 = .ok (.ifCond .ne 7, 3) := by decide +kernel
theorem dL_areShares_100 : decode cL_areShares 100 = .ok (.iconst 0, 1) := by decide +kernel
theorem dL_areShares_101 : decode cL_areShares 101 = .ok (.goto 10, 3) := by decide +kernel
theorem dL_areShares_104 : decode cL_areShares 104 = .ok (.bipush 100, 2) := by decide +kernel
theorem dL_areShares_106 : decode cL_areShares 106 = .ok (.iload 14, 2) := by decide +kernel
theorem dL_areShares_108 : decode cL_areShares 108 = .ok (.imul, 1) := by decide +kernel
theorem dL_areShares_109 : decode cL_areShares 109 = .ok (.iload_n 3, 1) := by decide +kernel
theorem dL_areShares_110 : decode cL_areShares 110 = .ok (.idiv, 1) := by decide +kernel
theorem dL_areShares_111 : decode cL_areShares 111 = .ok (.istore 16, 2) := by decide +kernel
theorem dL_areShares_113 : decode cL_areShares 113 = .ok (.iload_n 3, 1) := by decide +kernel
theorem dL_areShares_114 : decode cL_areShares 114 = .ok (.ifCond .eq 13, 3) := by decide +kernel
theorem dL_areShares_117 : decode cL_areShares 117 = .ok (.bipush 100, 2) := by decide +kernel
theorem dL_areShares_119 : decode cL_areShares 119 = .ok (.iload 14, 2) := by decide +kernel
theorem dL_areShares_121 : decode cL_areShares 121 = .ok (.imul, 1) := by decide +kernel
theorem dL_areShares_122 : decode cL_areShares 122 = .ok (.iload_n 3, 1) := by decide +kernel
theorem dL_areShares_123 : decode cL_areShares 123 = .ok (.irem, 1) := by decide +kernel
theorem dL_areShares_124 : decode cL_areShares 124 = .ok (.ifCond .ne 7, 3) := by decide +kernel
theorem dL_areShares_127 : decode cL_areShares 127 = .ok (.iconst 1, 1) := by decide +kernel
theorem dL_areShares_128 : decode cL_areShares 128 = .ok (.goto 4, 3) := by decide +kernel
theorem dL_areShares_131 : decode cL_areShares 131 = .ok (.iconst 0, 1) := by decide +kernel
theorem dL_areShares_132 : decode cL_areShares 132 = .ok (.istore 17, 2) := by decide +kernel
theorem dL_areShares_134 : decode cL_areShares 134 = .ok (.iload 14, 2) := by decide +kernel
theorem dL_areShares_136 : decode cL_areShares 136 = .ok (.ifCond .lt 43, 3) := by decide +kernel
theorem dL_areShares_139 : decode cL_areShares 139 = .ok (.iload 15, 2) := by decide +kernel
theorem dL_areShares_141 : decode cL_areShares 141 = .ok (.iload 16, 2) := by decide +kernel
theorem dL_areShares_143 : decode cL_areShares 143 = .ok (.if_icmp .lt 36, 3) := by decide +kernel
theorem dL_areShares_146 : decode cL_areShares 146 = .ok (.iload 15, 2) := by decide +kernel
theorem dL_areShares_148 : decode cL_areShares 148 = .ok (.iload 16, 2) := by decide +kernel
theorem dL_areShares_150 : decode cL_areShares 150 = .ok (.iload 17, 2) := by decide +kernel
theorem dL_areShares_152 : decode cL_areShares 152 = .ok (.ifCond .eq 7, 3) := by decide +kernel
theorem dL_areShares_155 : decode cL_areShares 155 = .ok (.iconst 0, 1) := by decide +kernel
theorem dL_areShares_156 : decode cL_areShares 156 = .ok (.goto 4, 3) := by decide +kernel
theorem dL_areShares_159 : decode cL_areShares 159 = .ok (.iconst 1, 1) := by decide +kernel
theorem dL_areShares_160 : decode cL_areShares 160 = .ok (.iadd, 1) := by decide +kernel
theorem dL_areShares_161 : decode cL_areShares 161 = .ok (.if_icmp .gt 18, 3) := by decide +kernel
theorem dL_areShares_164 : decode cL_areShares 164 = .ok (.aload_n 0, 1) := by decide +kernel
theorem dL_areShares_165 : decode cL_areShares 165 = .ok (.iload_n 1, 1) := by decide +kernel
theorem dL_areShares_166 : decode cL_areShares 166 = .ok (.iload_n 2, 1) := by decide +kernel
theorem dL_areShares_167 : decode cL_areShares 167 = .ok (.iload 10, 2) := by decide +kernel
theorem dL_areShares_169 : decode cL_areShares 169 = .ok (.iload 13, 2) := by decide +kernel
theorem dL_areShares_171 : decode cL_areShares 171 = .ok (.invokevirtual 21, 3) := by decide +kernel
theorem dL_areShares_174 : decode cL_areShares 174 = .ok (.iload 15, 2) := by decide +kernel
theorem dL_areShares_176 : decode cL_areShares 176 = .ok (.if_icmp .eq 5, 3) := by decide +kernel
theorem dL_areShares_179 : decode cL_areShares 179 = .ok (.iconst 0, 1) := by decide +kernel
theorem dL_areShares_180 : decode cL_areShares 180 = .ok (.ireturn, 1) := by decide +kernel
theorem dL_areShares_181 : decode cL_areShares 181 = .ok (.iload 12, 2) := by decide +kernel
theorem dL_areShares_183 : decode cL_areShares 183 = .ok (.iload 14, 2) := by decide +kernel
theorem dL_areShares_185 : decode cL_areShares 185 = .ok (.iadd, 1) := by decide +kernel
theorem dL_areShares_186 : decode cL_areShares 186 = .ok (.istore 12, 2) := by decide +kernel
theorem dL_areShares_188 : decode cL_areShares 188 = .ok (.iload 6, 2) := by decide +kernel
theorem dL_areShares_190 : decode cL_areShares 190 = .ok (.iload 15, 2) := by decide +kernel
theorem dL_areShares_192 : decode cL_areShares 192 = .ok (.iadd, 1) := by decide +kernel
theorem dL_areShares_193 : decode cL_areShares 193 = .ok (.istore 6, 2) := by decide +kernel
theorem dL_areShares_195 : decode cL_areShares 195 = .ok (.iinc 13 1, 3) := by decide +kernel
theorem dL_areShares_198 : decode cL_areShares 198 = .ok (.goto (-132), 3) := by decide +kernel
theorem dL_areShares_201 : decode cL_areShares 201 = .ok (.iload 11, 2) := by decide +kernel
theorem dL_areShares_203 : decode cL_areShares 203 = .ok (.iload 12, 2) := by decide +kernel
theorem dL_areShares_205 : decode cL_areShares 205 = .ok (.if_icmp .eq 5, 3) := by decide +kernel
theorem dL_areShares_208 : decode cL_areShares 208 = .ok (.iconst 0, 1) := by decide +kernel
theorem dL_areShares_209 : decode cL_areShares 209 = .ok (.ireturn, 1) := by decide +kernel
theorem dL_areShares_210 : decode cL_areShares 210 = .ok (.iload 7, 2) := by decide +kernel
theorem dL_areShares_212 : decode cL_areShares 212 = .ok (.iload 11, 2) := by decide +kernel
theorem dL_areShares_214 : decode cL_areShares 214 = .ok (.iadd, 1) := by decide +kernel
theorem dL_areShares_215 : decode cL_areShares 215 = .ok (.istore 7, 2) := by decide +kernel
theorem dL_areShares_217 : decode cL_areShares 217 = .ok (.iload 11, 2) := by decide +kernel
theorem dL_areShares_219 : decode cL_areShares 219 = .ok (.iload 9, 2) := by decide +kernel
theorem dL_areShares_221 : decode cL_areShares 221 = .ok (.if_icmp .le 8, 3) := by decide +kernel
theorem dL_areShares_224 : decode cL_areShares 224 = .ok (.iload 10, 2) := by decide +kernel
theorem dL_areShares_226 : decode cL_areShares 226 = .ok (.goto 5, 3) := by decide +kernel
theorem dL_areShares_229 : decode cL_areShares 229 = .ok (.iload 8, 2) := by decide +kernel
theorem dL_areShares_231 : decode cL_areShares 231 = .ok (.istore 8, 2) := by decide +kernel
theorem dL_areShares_233 : decode cL_areShares 233 = .ok (.iload 11, 2) := by decide +kernel
theorem dL_areShares_235 : decode cL_areShares 235 = .ok (.iload 9, 2) := by decide +kernel
theorem dL_areShares_237 : decode cL_areShares 237 = .ok (.if_icmp .le 8, 3) := by decide +kernel
theorem dL_areShares_240 : decode cL_areShares 240 = .ok (.iload 11, 2) := by decide +kernel
theorem dL_areShares_242 : decode cL_areShares 242 = .ok (.goto 5, 3) := by decide +kernel
theorem dL_areShares_245 : decode cL_areShares 245 = .ok (.iload 9, 2) := by decide +kernel
theorem dL_areShares_247 : decode cL_areShares 247 = .ok (.istore 9, 2) := by decide +kernel
theorem dL_areShares_249 : decode cL_areShares 249 = .ok (.iinc 10 1, 3) := by decide +kernel
theorem dL_areShares_252 : decode cL_areShares 252 = .ok (.goto (-210), 3) := by decide +kernel
theorem dL_areShares_255 : decode cL_areShares 255 = .ok (.iconst 0, 1) := by decide +kernel
theorem dL_areShares_256 : decode cL_areShares 256 = .ok (.istore 10, 2) := by decide +kernel
theorem dL_areShares_258 : decode cL_areShares 258 = .ok (.iconst 0, 1) := by decide +kernel
theorem dL_areShares_259 : decode cL_areShares 259 = .ok (.istore 11, 2) := by decide +kernel
theorem dL_areShares_261 : decode cL_areShares 261 = .ok (.iload 11, 2) := by decide +kernel
theorem dL_areShares_263 : decode cL_areShares 263 = .ok (.iconst 3, 1) := by decide +kernel
theorem dL_areShares_264 : decode cL_areShares 264 = .ok (.if_icmp .ge 68, 3) := by decide +kernel
theorem dL_areShares_267 : decode cL_areShares 267 = .ok (.aload_n 0, 1) := by decide +kernel
theorem dL_areShares_268 : decode cL_areShares 268 = .ok (.iload_n 1, 1) := by decide +kernel
theorem dL_areShares_269 : decode cL_areShares 269 = .ok (.iload_n 2, 1) := by decide +kernel
theorem dL_areShares_270 : decode cL_areShares 270 = .ok (.bipush 6, 2) := by decide +kernel
theorem dL_areShares_272 : decode cL_areShares 272 = .ok (.iload 11, 2) := by decide +kernel
theorem dL_areShares_274 : decode cL_areShares 274 = .ok (.iadd, 1) := by decide +kernel
theorem dL_areShares_275 : decode cL_areShares 275 = .ok (.invokevirtual 8, 3) := by decide +kernel
theorem dL_areShares_278 : decode cL_areShares 278 = .ok (.istore 12, 2) := by decide +kernel
theorem dL_areShares_280 : decode cL_areShares 280 = .ok (.iconst 0, 1) := by decide +kernel
theorem dL_areShares_281 : decode cL_areShares 281 = .ok (.istore 13, 2) := by decide +kernel
theorem dL_areShares_283 : decode cL_areShares 283 = .ok (.iload 13, 2) := by decide +kernel
theorem dL_areShares_285 : decode cL_areShares 285 = .ok (.bipush 16, 2) := by decide +kernel
theorem dL_areShares_287 : decode cL_areShares 287 = .ok (.if_icmp .ge 24, 3) := by decide +kernel
theorem dL_areShares_290 : decode cL_areShares 290 = .ok (.iload 12, 2) := by decide +kernel
theorem dL_areShares_292 : decode cL_areShares 292 = .ok (.aload_n 0, 1) := by decide +kernel
theorem dL_areShares_293 : decode cL_areShares 293 = .ok (.iload_n 1, 1) := by decide +kernel
theorem dL_areShares_294 : decode cL_areShares 294 = .ok (.iload_n 2, 1) := by decide +kernel
theorem dL_areShares_295 : decode cL_areShares 295 = .ok (.iload 13, 2) := by decide +kernel
theorem dL_areShares_297 : decode cL_areShares 297 = .ok (.iload 11, 2) := by decide +kernel
theorem dL_areShares_299 : decode cL_areShares 299 = .ok (.invokevirtual 14, 3) := by decide +kernel
theorem dL_areShares_302 : decode cL_areShares 302 = .ok (.isub, 1) := by decide +kernel
theorem dL_areShares_303 : decode cL_areShares 303 = .ok (.istore 12, 2) := by decide +kernel
theorem dL_areShares_305 : decode cL_areShares 305 = .ok (.iinc 13 1, 3) := by decide +kernel
theorem dL_areShares_308 : decode cL_areShares 308 = .ok (.goto (-25), 3) := by decide +kernel
theorem dL_areShares_311 : decode cL_areShares 311 = .ok (.iload 10, 2) := by decide +kernel
theorem dL_areShares_313 : decode cL_areShares 313 = .ok (.iload 12, 2) := by decide +kernel
theorem dL_areShares_315 : decode cL_areShares 315 = .ok (.ifCond .ne 7, 3) := by decide +kernel
theorem dL_areShares_318 : decode cL_areShares 318 = .ok (.iconst 0, 1) := by decide +kernel
theorem dL_areShares_319 : decode cL_areShares 319 = .ok (.goto 4, 3) := by decide +kernel
theorem dL_areShares_322 : decode cL_areShares 322 = .ok (.iconst 1, 1) := by decide +kernel
theorem dL_areShares_323 : decode cL_areShares 323 = .ok (.iadd, 1) := by decide +kernel
theorem dL_areShares_324 : decode cL_areShares 324 = .ok (.istore 10, 2) := by decide +kernel
theorem dL_areShares_326 : decode cL_areShares 326 = .ok (.iinc 11 1, 3) := by decide +kernel
theorem dL_areShares_329 : decode cL_areShares 329 = .ok (.goto (-68), 3) := by decide +kernel
theorem dL_areShares_332 : decode cL_areShares 332 = .ok (.aload_n 0, 1) := by decide +kernel
theorem dL_areShares_333 : decode cL_areShares 333 = .ok (.iload_n 1, 1) := by decide +kernel
theorem dL_areShares_334 : decode cL_areShares 334 = .ok (.iload_n 2, 1) := by decide +kernel
theorem dL_areShares_335 : decode cL_areShares 335 = .ok (.iconst 5, 1) := by decide +kernel
theorem dL_areShares_336 : decode cL_areShares 336 = .ok (.invokevirtual 8, 3) := by decide +kernel
theorem dL_areShares_339 : decode cL_areShares 339 = .ok (.istore 11, 2) := by decide +kernel
theorem dL_areShares_341 : decode cL_areShares 341 = .ok (.aload_n 0, 1) := by decide +kernel
theorem dL_areShares_342 : decode cL_areShares 342 = .ok (.iload_n 1, 1) := by decide +kernel
theorem dL_areShares_343 : decode cL_areShares 343 = .ok (.iload_n 2, 1) := by decide +kernel
theorem dL_areShares_344 : decode cL_areShares 344 = .ok (.iconst 4, 1) := by decide +kernel
theorem dL_areShares_345 : decode cL_areShares 345 = .ok (.invokevirtual 8, 3) := by decide +kernel
theorem dL_areShares_348 : decode cL_areShares 348 = .ok (.istore 12, 2) := by decide +kernel
theorem dL_areShares_350 : decode cL_areShares 350 = .ok (.iload_n 3, 1) := by decide +kernel
theorem dL_areShares_351 : decode cL_areShares 351 = .ok (.ifCond .ne 25, 3) := by decide +kernel
theorem dL_areShares_354 : decode cL_areShares 354 = .ok (.iload 11, 2) := by decide +kernel
theorem dL_areShares_356 : decode cL_areShares 356 = .ok (.bipush (-5), 2) := by decide +kernel
theorem dL_areShares_358 : decode cL_areShares 358 = .ok (.if_icmp .ne 14, 3) := by decide +kernel
theorem dL_areShares_361 : decode cL_areShares 361 = .ok (.iload 12, 2) := by decide +kernel
theorem dL_areShares_363 : decode cL_areShares 363 = .ok (.bipush (-5), 2) := by decide +kernel
theorem dL_areShares_365 : decode cL_areShares 365 = .ok (.if_icmp .ne 7, 3) := by decide +kernel
theorem dL_areShares_368 : decode cL_areShares 368 = .ok (.iconst 1, 1) := by decide +kernel
theorem dL_areShares_369 : decode cL_areShares 369 = .ok (.goto 31, 3) := by decide +kernel
theorem dL_areShares_372 : decode cL_areShares 372 = .ok (.iconst 0, 1) := by decide +kernel
theorem dL_areShares_373 : decode cL_areShares 373 = .ok (.goto 27, 3) := by decide +kernel
theorem dL_areShares_376 : decode cL_areShares 376 = .ok (.iload 11, 2) := by decide +kernel
theorem dL_areShares_378 : decode cL_areShares 378 = .ok (.ifCond .le 21, 3) := by decide +kernel
theorem dL_areShares_381 : decode cL_areShares 381 = .ok (.iload 11, 2) := by decide +kernel
theorem dL_areShares_383 : decode cL_areShares 383 = .ok (.iload 12, 2) := by decide +kernel
theorem dL_areShares_385 : decode cL_areShares 385 = .ok (.if_icmp .gt 14, 3) := by decide +kernel
theorem dL_areShares_388 : decode cL_areShares 388 = .ok (.iload 12, 2) := by decide +kernel
theorem dL_areShares_390 : decode cL_areShares 390 = .ok (.bipush 100, 2) := by decide +kernel
theorem dL_areShares_392 : decode cL_areShares 392 = .ok (.if_icmp .ge 7, 3) := by decide +kernel
theorem dL_areShares_395 : decode cL_areShares 395 = .ok (.iconst 1, 1) := by decide +kernel
theorem dL_areShares_396 : decode cL_areShares 396 = .ok (.goto 4, 3) := by decide +kernel
theorem dL_areShares_399 : decode cL_areShares 399 = .ok (.iconst 0, 1) := by decide +kernel
theorem dL_areShares_400 : decode cL_areShares 400 = .ok (.istore 13, 2) := by decide +kernel
theorem dL_areShares_402 : decode cL_areShares 402 = .ok (.iload 10, 2) := by decide +kernel
theorem dL_areShares_404 : decode cL_areShares 404 = .ok (.ifCond .ne 90, 3) := by decide +kernel
theorem dL_areShares_407 : decode cL_areShares 407 = .ok (.iload 13, 2) := by decide +kernel
theorem dL_areShares_409 : decode cL_areShares 409 = .ok (.ifCond .eq 85, 3) := by decide +kernel
theorem dL_areShares_412 : decode cL_areShares 412 = .ok (.iload 5, 2) := by decide +kernel
theorem dL_areShares_414 : decode cL_areShares 414 = .ok (.iload_n 3, 1) := by decide +kernel
theorem dL_areShares_415 : decode cL_areShares 415 = .ok (.iload 4, 2) := by decide +kernel
theorem dL_areShares_417 : decode cL_areShares 417 = .ok (.iadd, 1) := by decide +kernel
theorem dL_areShares_418 : decode cL_areShares 418 = .ok (.if_icmp .ne 76, 3) := by decide +kernel
theorem dL_areShares_421 : decode cL_areShares 421 = .ok (.iload 7, 2) := by decide +kernel
theorem dL_areShares_423 : decode cL_areShares 423 = .ok (.iload_n 3, 1) := by decide +kernel
theorem dL_areShares_424 : decode cL_areShares 424 = .ok (.if_icmp .ne 70, 3) := by decide +kernel
theorem dL_areShares_427 : decode cL_areShares 427 = .ok (.iload 5, 2) := by decide +kernel
theorem dL_areShares_429 : decode cL_areShares 429 = .ok (.sipush 9999, 3) := by decide +kernel
theorem dL_areShares_432 : decode cL_areShares 432 = .ok (.if_icmp .gt 62, 3) := by decide +kernel
theorem dL_areShares_435 : decode cL_areShares 435 = .ok (.iload 6, 2) := by decide +kernel
theorem dL_areShares_437 : decode cL_areShares 437 = .ok (.iload_n 3, 1) := by decide +kernel
theorem dL_areShares_438 : decode cL_areShares 438 = .ok (.ifCond .ne 7, 3) := by decide +kernel
theorem dL_areShares_441 : decode cL_areShares 441 = .ok (.iconst 0, 1) := by decide +kernel
theorem dL_areShares_442 : decode cL_areShares 442 = .ok (.goto 5, 3) := by decide +kernel
theorem dL_areShares_445 : decode cL_areShares 445 = .ok (.bipush 100, 2) := by decide +kernel
theorem dL_areShares_447 : decode cL_areShares 447 = .ok (.if_icmp .ne 47, 3) := by decide +kernel
theorem dL_areShares_450 : decode cL_areShares 450 = .ok (.aload_n 0, 1) := by decide +kernel
theorem dL_areShares_451 : decode cL_areShares 451 = .ok (.iload_n 1, 1) := by decide +kernel
theorem dL_areShares_452 : decode cL_areShares 452 = .ok (.iload_n 2, 1) := by decide +kernel
theorem dL_areShares_453 : decode cL_areShares 453 = .ok (.iconst 3, 1) := by decide +kernel
theorem dL_areShares_454 : decode cL_areShares 454 = .ok (.invokevirtual 8, 3) := by decide +kernel
theorem dL_areShares_457 : decode cL_areShares 457 = .ok (.iload 5, 2) := by decide +kernel
theorem dL_areShares_459 : decode cL_areShares 459 = .ok (.ifCond .ne 7, 3) := by decide +kernel
theorem dL_areShares_462 : decode cL_areShares 462 = .ok (.iconst 0, 1) := by decide +kernel
theorem dL_areShares_463 : decode cL_areShares 463 = .ok (.goto 11, 3) := by decide +kernel
theorem dL_areShares_466 : decode cL_areShares 466 = .ok (.bipush 100, 2) := by decide +kernel
theorem dL_areShares_468 : decode cL_areShares 468 = .ok (.iload 4, 2) := by decide +kernel
theorem dL_areShares_470 : decode cL_areShares 470 = .ok (.imul, 1) := by decide +kernel
theorem dL_areShares_471 : decode cL_areShares 471 = .ok (.iload 5, 2) := by decide +kernel
theorem dL_areShares_473 : decode cL_areShares 473 = .ok (.idiv, 1) := by decide +kernel
theorem dL_areShares_474 : decode cL_areShares 474 = .ok (.if_icmp .ne 20, 3) := by decide +kernel
theorem dL_areShares_477 : decode cL_areShares 477 = .ok (.aload_n 0, 1) := by decide +kernel
theorem dL_areShares_478 : decode cL_areShares 478 = .ok (.iload_n 1, 1) := by decide +kernel
theorem dL_areShares_479 : decode cL_areShares 479 = .ok (.iload_n 2, 1) := by decide +kernel
theorem dL_areShares_480 : decode cL_areShares 480 = .ok (.bipush 9, 2) := by decide +kernel
theorem dL_areShares_482 : decode cL_areShares 482 = .ok (.invokevirtual 8, 3) := by decide +kernel
theorem dL_areShares_485 : decode cL_areShares 485 = .ok (.iload 8, 2) := by decide +kernel
theorem dL_areShares_487 : decode cL_areShares 487 = .ok (.if_icmp .ne 7, 3) := by decide +kernel
theorem dL_areShares_490 : decode cL_areShares 490 = .ok (.iconst 1, 1) := by decide +kernel
theorem dL_areShares_491 : decode cL_areShares 491 = .ok (.goto 4, 3) := by decide +kernel
theorem dL_areShares_494 : decode cL_areShares 494 = .ok (.iconst 0, 1) := by decide +kernel
theorem dL_areShares_495 : decode cL_areShares 495 = .ok (.ireturn, 1) := by decide +kernel
set_option maxRecDepth 20000 in
theorem ggL_areQuarters_X6_hours : GoodIn wsL_areQuarters wsX6_hours := goodIn_r _ [5, 6, 7, 8, 4, 9, 10, 11, 12, 13, 14, 15, 16, 17, 18, 19, 20, 21, 22, 23, 24, 25, 26, 27, 28, 29, 30, 31, 32, 33, 34, 35, 36, 37, 38, 39, 60, 61, 62, 63, 64, 65, 66, 67, 68, 69, 70] (by decide +kernel) (by decide +kernel)
set_option maxRecDepth 20000 in
theorem gL_areQuarters_X6_hours : GoodIn wsL_areQuarters (wsV RL 14 RX6 yX6_hours wsX6_hours) := goodIn_app (goodIn_of _ (by decide +kernel)) ggL_areQuarters_X6_hours
set_option maxRecDepth 20000 in
theorem ggL_areQuarters_X6_quarter : GoodIn wsL_areQuarters wsX6_quarter := goodIn_r _ [43, 7, 8, 4, 9, 10, 11, 12, 16, 17, 18, 44, 45, 46, 47, 6, 48, 49, 50, 51, 19, 20, 21, 22, 23, 24, 25, 26, 27, 28, 60, 61, 62, 63, 64, 65, 66, 67, 68, 69, 70] (by decide +kernel) (by decide +kernel)
set_option maxRecDepth 20000 in
theorem gL_areQuarters_X6_quarter : GoodIn wsL_areQuarters (wsV RL 24 RX6 yX6_quarter wsX6_quarter) := goodIn_app (goodIn_of _ (by decide +kernel)) ggL_areQuarters_X6_quarter
set_option maxRecDepth 20000 in
theorem ggL_areQuarters_X6_excess : GoodIn wsL_areQuarters wsX6_excess := goodIn_r _ [55, 56, 57, 58, 59, 7, 8, 4, 9, 10, 11, 12, 13, 14, 15, 16, 17, 18, 44, 45, 46, 47, 6, 48, 49, 50, 51, 19, 20, 21, 22, 23, 24, 25, 26, 27, 28, 60, 61, 62, 63, 64, 65, 66, 67, 68, 69, 70] (by decide +kernel) (by decide +kernel)
set_option maxRecDepth 20000 in
theorem gL_areQuarters_X6_excess : GoodIn wsL_areQuarters (wsV RL 27 RX6 yX6_excess wsX6_excess) := goodIn_app (goodIn_of _ (by decide +kernel)) ggL_areQuarters_X6_excess
theorem dL_areQuarters_0 : decode cL_areQuarters 0 = .ok (.iconst 0, 1) := by decide +kernel
theorem dL_areQuarters_1 : decode cL_areQuarters 1 = .ok (.istore_n 3, 1) := by decide +kernel
theorem dL_areQuarters_2 : decode cL_areQuarters 2 = .ok (.iload_n 3, 1) := by decide +kernel
theorem dL_areQuarters_3 : decode cL_areQuarters 3 = .ok (.iconst 4, 1) := by decide +kernel
theorem dL_areQuarters_4 : decode cL_areQuarters 4 = .ok (.if_icmp .ge 101, 3) := by decide +kernel
theorem dL_areQuarters_7 : decode cL_areQuarters 7 = .ok (.aload_n 0, 1) := by decide +kernel
theorem dL_areQuarters_8 : decode cL_areQuarters 8 = .ok (.iload_n 1, 1) := by decide +kernel
theorem dL_areQuarters_9 : decode cL_areQuarters 9 = .ok (.iload_n 2, 1) := by decide +kernel
theorem dL_areQuarters_10 : decode cL_areQuarters 10 = .ok (.iconst 4, 1) := by decide +kernel
theorem dL_areQuarters_11 : decode cL_areQuarters 11 = .ok (.iload_n 3, 1) := by decide +kernel
theorem dL_areQuarters_12 : decode cL_areQuarters 12 = .ok (.imul, 1) := by decide +kernel
theorem dL_areQuarters_13 : decode cL_areQuarters 13 = .ok (.iconst 3, 1) := by decide +kernel
theorem dL_areQuarters_14 : decode cL_areQuarters 14 = .ok (.invokevirtual 14, 3) := by decide +kernel
theorem dL_areQuarters_17 : decode cL_areQuarters 17 = .ok (.aload_n 0, 1) := by decide +kernel
theorem dL_areQuarters_18 : decode cL_areQuarters 18 = .ok (.iload_n 1, 1) := by decide +kernel
theorem dL_areQuarters_19 : decode cL_areQuarters 19 = .ok (.iload_n 2, 1) := by decide +kernel
theorem dL_areQuarters_20 : decode cL_areQuarters 20 = .ok (.iconst 4, 1) := by decide +kernel
theorem dL_areQuarters_21 : decode cL_areQuarters 21 = .ok (.iload_n 3, 1) := by decide +kernel
theorem dL_areQuarters_22 : decode cL_areQuarters 22 = .ok (.imul, 1) := by decide +kernel
theorem dL_areQuarters_23 : decode cL_areQuarters 23 = .ok (.bipush 15, 2) := by decide +kernel
theorem dL_areQuarters_25 : decode cL_areQuarters 25 = .ok (.iadd, 1) := by decide +kernel
theorem dL_areQuarters_26 : decode cL_areQuarters 26 = .ok (.bipush 16, 2) := by decide +kernel
theorem dL_areQuarters_28 : decode cL_areQuarters 28 = .ok (.irem, 1) := by decide +kernel
theorem dL_areQuarters_29 : decode cL_areQuarters 29 = .ok (.iconst 3, 1) := by decide +kernel
theorem dL_areQuarters_30 : decode cL_areQuarters 30 = .ok (.invokevirtual 14, 3) := by decide +kernel
theorem dL_areQuarters_33 : decode cL_areQuarters 33 = .ok (.iadd, 1) := by decide +kernel
theorem dL_areQuarters_34 : decode cL_areQuarters 34 = .ok (.aload_n 0, 1) := by decide +kernel
theorem dL_areQuarters_35 : decode cL_areQuarters 35 = .ok (.iload_n 1, 1) := by decide +kernel
theorem dL_areQuarters_36 : decode cL_areQuarters 36 = .ok (.iload_n 2, 1) := by decide +kernel
theorem dL_areQuarters_37 : decode cL_areQuarters 37 = .ok (.iconst 4, 1) := by decide +kernel
theorem dL_areQuarters_38 : decode cL_areQuarters 38 = .ok (.iload_n 3, 1) := by decide +kernel
theorem dL_areQuarters_39 : decode cL_areQuarters 39 = .ok (.imul, 1) := by decide +kernel
theorem dL_areQuarters_40 : decode cL_areQuarters 40 = .ok (.iconst 1, 1) := by decide +kernel
theorem dL_areQuarters_41 : decode cL_areQuarters 41 = .ok (.iadd, 1) := by decide +kernel
theorem dL_areQuarters_42 : decode cL_areQuarters 42 = .ok (.iconst 3, 1) := by decide +kernel
theorem dL_areQuarters_43 : decode cL_areQuarters 43 = .ok (.invokevirtual 14, 3) := by decide +kernel
theorem dL_areQuarters_46 : decode cL_areQuarters 46 = .ok (.iadd, 1) := by decide +kernel
theorem dL_areQuarters_47 : decode cL_areQuarters 47 = .ok (.istore 4, 2) := by decide +kernel
theorem dL_areQuarters_49 : decode cL_areQuarters 49 = .ok (.aload_n 0, 1) := by decide +kernel
theorem dL_areQuarters_50 : decode cL_areQuarters 50 = .ok (.iload_n 1, 1) := by decide +kernel
theorem dL_areQuarters_51 : decode cL_areQuarters 51 = .ok (.iload_n 2, 1) := by decide +kernel
theorem dL_areQuarters_52 : decode cL_areQuarters 52 = .ok (.iconst 4, 1) := by decide +kernel
theorem dL_areQuarters_53 : decode cL_areQuarters 53 = .ok (.iload_n 3, 1) := by decide +kernel
theorem dL_areQuarters_54 : decode cL_areQuarters 54 = .ok (.imul, 1) := by decide +kernel
theorem dL_areQuarters_55 : decode cL_areQuarters 55 = .ok (.bipush 14, 2) := by decide +kernel
theorem dL_areQuarters_57 : decode cL_areQuarters 57 = .ok (.iadd, 1) := by decide +kernel
theorem dL_areQuarters_58 : decode cL_areQuarters 58 = .ok (.bipush 16, 2) := by decide +kernel
theorem dL_areQuarters_60 : decode cL_areQuarters 60 = .ok (.irem, 1) := by decide +kernel
theorem dL_areQuarters_61 : decode cL_areQuarters 61 = .ok (.iconst 3, 1) := by decide +kernel
theorem dL_areQuarters_62 : decode cL_areQuarters 62 = .ok (.invokevirtual 14, 3) := by decide +kernel
theorem dL_areQuarters_65 : decode cL_areQuarters 65 = .ok (.aload_n 0, 1) := by decide +kernel
theorem dL_areQuarters_66 : decode cL_areQuarters 66 = .ok (.iload_n 1, 1) := by decide +kernel
theorem dL_areQuarters_67 : decode cL_areQuarters 67 = .ok (.iload_n 2, 1) := by decide +kernel
theorem dL_areQuarters_68 : decode cL_areQuarters 68 = .ok (.iconst 4, 1) := by decide +kernel
theorem dL_areQuarters_69 : decode cL_areQuarters 69 = .ok (.iload_n 3, 1) := by decide +kernel
theorem dL_areQuarters_70 : decode cL_areQuarters 70 = .ok (.imul, 1) := by decide +kernel
theorem dL_areQuarters_71 : decode cL_areQuarters 71 = .ok (.iconst 2, 1) := by decide +kernel
theorem dL_areQuarters_72 : decode cL_areQuarters 72 = .ok (.iadd, 1) := by decide +kernel
theorem dL_areQuarters_73 : decode cL_areQuarters 73 = .ok (.iconst 3, 1) := by decide +kernel
theorem dL_areQuarters_74 : decode cL_areQuarters 74 = .ok (.invokevirtual 14, 3) := by decide +kernel
theorem dL_areQuarters_77 : decode cL_areQuarters 77 = .ok (.iadd, 1) := by decide +kernel
theorem dL_areQuarters_78 : decode cL_areQuarters 78 = .ok (.istore 5, 2) := by decide +kernel
theorem dL_areQuarters_80 : decode cL_areQuarters 80 = .ok (.aload_n 0, 1) := by decide +kernel
theorem dL_areQuarters_81 : decode cL_areQuarters 81 = .ok (.iload_n 1, 1) := by decide +kernel
theorem dL_areQuarters_82 : decode cL_areQuarters 82 = .ok (.iload_n 2, 1) := by decide +kernel
theorem dL_areQuarters_83 : decode cL_areQuarters 83 = .ok (.iload_n 3, 1) := by decide +kernel
theorem dL_areQuarters_84 : decode cL_areQuarters 84 = .ok (.invokevirtual 24, 3) := by decide +kernel
theorem dL_areQuarters_87 : decode cL_areQuarters 87 = .ok (.iload 4, 2) := by decide +kernel
theorem dL_areQuarters_89 : decode cL_areQuarters 89 = .ok (.iload 5, 2) := by decide +kernel
theorem dL_areQuarters_91 : decode cL_areQuarters 91 = .ok (.iconst 2, 1) := by decide +kernel
theorem dL_areQuarters_92 : decode cL_areQuarters 92 = .ok (.idiv, 1) := by decide +kernel
theorem dL_areQuarters_93 : decode cL_areQuarters 93 = .ok (.iadd, 1) := by decide +kernel
theorem dL_areQuarters_94 : decode cL_areQuarters 94 = .ok (.if_icmp .eq 5, 3) := by decide +kernel
theorem dL_areQuarters_97 : decode cL_areQuarters 97 = .ok (.iconst 0, 1) := by decide +kernel
theorem dL_areQuarters_98 : decode cL_areQuarters 98 = .ok (.ireturn, 1) := by decide +kernel
theorem dL_areQuarters_99 : decode cL_areQuarters 99 = .ok (.iinc 3 1, 3) := by decide +kernel
theorem dL_areQuarters_102 : decode cL_areQuarters 102 = .ok (.goto (-100), 3) := by decide +kernel
theorem dL_areQuarters_105 : decode cL_areQuarters 105 = .ok (.iconst 0, 1) := by decide +kernel
theorem dL_areQuarters_106 : decode cL_areQuarters 106 = .ok (.istore_n 3, 1) := by decide +kernel
theorem dL_areQuarters_107 : decode cL_areQuarters 107 = .ok (.iload_n 3, 1) := by decide +kernel
theorem dL_areQuarters_108 : decode cL_areQuarters 108 = .ok (.bipush 16, 2) := by decide +kernel
theorem dL_areQuarters_110 : decode cL_areQuarters 110 = .ok (.if_icmp .ge 57, 3) := by decide +kernel
theorem dL_areQuarters_113 : decode cL_areQuarters 113 = .ok (.aload_n 0, 1) := by decide +kernel
theorem dL_areQuarters_114 : decode cL_areQuarters 114 = .ok (.iload_n 1, 1) := by decide +kernel
theorem dL_areQuarters_115 : decode cL_areQuarters 115 = .ok (.iload_n 2, 1) := by decide +kernel
theorem dL_areQuarters_116 : decode cL_areQuarters 116 = .ok (.iload_n 3, 1) := by decide +kernel
theorem dL_areQuarters_117 : decode cL_areQuarters 117 = .ok (.iconst 3, 1) := by decide +kernel
theorem dL_areQuarters_118 : decode cL_areQuarters 118 = .ok (.invokevirtual 14, 3) := by decide +kernel
theorem dL_areQuarters_121 : decode cL_areQuarters 121 = .ok (.aload_n 0, 1) := by decide +kernel
theorem dL_areQuarters_122 : decode cL_areQuarters 122 = .ok (.iload_n 1, 1) := by decide +kernel
theorem dL_areQuarters_123 : decode cL_areQuarters 123 = .ok (.iload_n 2, 1) := by decide +kernel
theorem dL_areQuarters_124 : decode cL_areQuarters 124 = .ok (.iload_n 3, 1) := by decide +kernel
theorem dL_areQuarters_125 : decode cL_areQuarters 125 = .ok (.bipush 8, 2) := by decide +kernel
theorem dL_areQuarters_127 : decode cL_areQuarters 127 = .ok (.iadd, 1) := by decide +kernel
theorem dL_areQuarters_128 : decode cL_areQuarters 128 = .ok (.bipush 16, 2) := by decide +kernel
theorem dL_areQuarters_130 : decode cL_areQuarters 130 = .ok (.irem, 1) := by decide +kernel
theorem dL_areQuarters_131 : decode cL_areQuarters 131 = .ok (.iconst 3, 1) := by decide +kernel
theorem dL_areQuarters_132 : decode cL_areQuarters 132 = .ok (.invokevirtual 14, 3) := by decide +kernel
theorem dL_areQuarters_135 : decode cL_areQuarters 135 = .ok (.isub, 1) := by decide +kernel
theorem dL_areQuarters_136 : decode cL_areQuarters 136 = .ok (.istore 4, 2) := by decide +kernel
theorem dL_areQuarters_138 : decode cL_areQuarters 138 = .ok (.aload_n 0, 1) := by decide +kernel
theorem dL_areQuarters_139 : decode cL_areQuarters 139 = .ok (.iload_n 1, 1) := by decide +kernel
theorem dL_areQuarters_140 : decode cL_areQuarters 140 = .ok (.iload_n 2, 1) := by decide +kernel
theorem dL_areQuarters_141 : decode cL_areQuarters 141 = .ok (.iload_n 3, 1) := by decide +kernel
theorem dL_areQuarters_142 : decode cL_areQuarters 142 = .ok (.invokevirtual 27, 3) := by decide +kernel
theorem dL_areQuarters_145 : decode cL_areQuarters 145 = .ok (.iload 4, 2) := by decide +kernel
theorem dL_areQuarters_147 : decode cL_areQuarters 147 = .ok (.ifCond .le 8, 3) := by decide +kernel
theorem dL_areQuarters_150 : decode cL_areQuarters 150 = .ok (.iload 4, 2) := by decide +kernel
theorem dL_areQuarters_152 : decode cL_areQuarters 152 = .ok (.goto 4, 3) := by decide +kernel
theorem dL_areQuarters_155 : decode cL_areQuarters 155 = .ok (.iconst 0, 1) := by decide +kernel
theorem dL_areQuarters_156 : decode cL_areQuarters 156 = .ok (.if_icmp .eq 5, 3) := by decide +kernel
theorem dL_areQuarters_159 : decode cL_areQuarters 159 = .ok (.iconst 0, 1) := by decide +kernel
theorem dL_areQuarters_160 : decode cL_areQuarters 160 = .ok (.ireturn, 1) := by decide +kernel
theorem dL_areQuarters_161 : decode cL_areQuarters 161 = .ok (.iinc 3 1, 3) := by decide +kernel
theorem dL_areQuarters_164 : decode cL_areQuarters 164 = .ok (.goto (-57), 3) := by decide +kernel
theorem dL_areQuarters_167 : decode cL_areQuarters 167 = .ok (.iconst 1, 1) := by decide +kernel
theorem dL_areQuarters_168 : decode cL_areQuarters 168 = .ok (.ireturn, 1) := by decide +kernel
set_option maxRecDepth 20000 in
theorem ggL_isPlate_X6_plate : GoodIn wsL_isPlate wsX6_plate := goodIn_r _ [5, 6, 7, 8, 9, 10, 11, 4, 12, 13, 14, 15, 16, 17, 18, 19, 20, 21, 22, 23, 24, 25, 26, 27, 28, 29, 30, 31, 32, 33, 34, 35, 36, 37, 38, 39, 40, 41, 42, 43, 44, 45, 46, 47, 48, 49, 50, 51, 52, 53, 54, 55, 56, 57, 58, 59, 60, 61, 62, 63, 64, 65, 66, 67, 68, 69, 70, 71, 72, 73, 74, 75, 76, 77, 78, 79, 80, 81, 82, 83, 84, 85, 86, 87, 88, 89, 90, 91, 92, 93, 94, 95, 96, 97, 98, 99, 100, 101, 102, 103, 104, 105, 106, 107, 108, 109, 110, 111, 112, 113, 114, 228, 229, 230, 231, 232, 233, 234, 235, 236, 237, 238, 239, 240, 241, 242, 243, 244, 245, 246] (by decide +kernel) (by decide +kernel)
set_option maxRecDepth 20000 in
theorem gL_isPlate_X6_plate : GoodIn wsL_isPlate (wsV RL 30 RX6 yX6_plate wsX6_plate) := goodIn_app (goodIn_of _ (by decide +kernel)) ggL_isPlate_X6_plate
set_option maxRecDepth 20000 in
theorem ggL_isPlate_X6_petal : GoodIn wsL_isPlate wsX6_petal := goodIn_r _ [118, 6, 119, 120, 4, 121, 10, 11, 12, 13, 14, 15, 122, 123, 124, 125, 126, 127, 16, 17, 18, 128, 75, 76, 129, 34, 35, 22, 36, 24, 228, 229, 230, 231, 232, 233, 234, 235, 236, 241, 242] (by decide +kernel) (by decide +kernel)
set_option maxRecDepth 20000 in
theorem gL_isPlate_X6_petal : GoodIn wsL_isPlate (wsV RL 33 RX6 yX6_petal wsX6_petal) := goodIn_app (goodIn_of _ (by decide +kernel)) ggL_isPlate_X6_petal
set_option maxRecDepth 20000 in
theorem ggL_isPlate_X6_rose : GoodIn wsL_isPlate wsX6_rose := goodIn_r _ [133, 6, 10, 11, 4, 12, 13, 14, 15, 16, 17, 18, 134, 107, 108, 22, 109, 110, 68, 69, 70, 24, 111, 112, 113, 114, 135, 136, 137, 103, 104, 105, 106, 138, 139, 140, 141, 142, 143, 144, 145, 146, 147, 148, 149, 150, 151, 152, 153, 154, 155, 156, 157, 158, 159, 160, 161, 78, 79, 80, 81, 82, 83, 84, 85, 86, 87, 88, 162, 163, 164, 165, 166, 167, 168, 169, 228, 229, 230, 231, 232, 233, 234, 235, 236, 241, 242] (by decide +kernel) (by decide +kernel)
set_option maxRecDepth 20000 in
theorem gL_isPlate_X6_rose : GoodIn wsL_isPlate (wsV RL 8 RX6 yX6_rose wsX6_rose) := goodIn_app (goodIn_of _ (by decide +kernel)) ggL_isPlate_X6_rose
set_option maxRecDepth 20000 in
theorem ggL_isPlate_X6_share : GoodIn wsL_isPlate wsX6_share := goodIn_r _ [173, 174, 6, 175, 119, 120, 4, 121, 10, 11, 12, 13, 14, 15, 122, 123, 124, 125, 126, 127, 16, 17, 18, 176, 56, 57, 58, 59, 60, 61, 62, 63, 64, 65, 66, 67, 68, 69, 22, 70, 24, 71, 72, 73, 74, 75, 76, 77, 78, 79, 80, 81, 82, 83, 84, 85, 86, 87, 88, 89, 90, 91, 92, 128, 228, 229, 230, 231, 232, 233, 234, 235, 236, 243, 244, 245, 246, 241, 242] (by decide +kernel) (by decide +kernel)
set_option maxRecDepth 20000 in
theorem gL_isPlate_X6_share : GoodIn wsL_isPlate (wsV RL 18 RX6 yX6_share wsX6_share) := goodIn_app (goodIn_of _ (by decide +kernel)) ggL_isPlate_X6_share
set_option maxRecDepth 20000 in
theorem ggL_isPlate_X6_reason : GoodIn wsL_isPlate wsX6_reason := goodIn_r _ [180, 10, 11, 4, 12, 13, 14, 15, 16, 17, 18, 181, 182, 183, 184, 6, 7, 185, 9, 134, 107, 108, 22, 109, 110, 68, 69, 70, 24, 111, 112, 113, 114, 45, 46, 47, 48, 49, 50, 51, 52, 53, 54, 55, 56, 57, 58, 59, 60, 61, 62, 63, 64, 65, 66, 67, 71, 72, 73, 74, 75, 76, 77, 78, 79, 80, 81, 82, 83, 84, 85, 86, 87, 88, 89, 90, 91, 92, 93, 34, 35, 36, 94, 95, 96, 97, 98, 99, 43, 100, 101, 20, 21, 23, 102, 103, 104, 105, 106, 25, 26, 27, 28, 186, 228, 229, 230, 231, 232, 233, 234, 235, 236, 237, 238, 239, 240, 241, 242, 243, 244, 245, 246] (by decide +kernel) (by decide +kernel)
set_option maxRecDepth 20000 in
theorem gL_isPlate_X6_reason : GoodIn wsL_isPlate (wsV RL 36 RX6 yX6_reason wsX6_reason) := goodIn_app (goodIn_of _ (by decide +kernel)) ggL_isPlate_X6_reason
set_option maxRecDepth 20000 in
theorem ggL_isPlate_X6_count : GoodIn wsL_isPlate wsX6_count := goodIn_r _ [190, 6, 191, 192, 193, 194, 195, 196, 22, 197, 198, 199, 200, 201, 24, 202, 203, 204, 205, 206, 207, 208, 4, 209, 7, 185, 45, 46, 47, 48, 49, 50, 51, 52, 53, 54, 55, 56, 57, 58, 59, 60, 61, 62, 63, 64, 65, 66, 67, 68, 69, 70, 71, 72, 73, 74, 75, 76, 77, 78, 79, 80, 81, 82, 83, 84, 85, 86, 87, 88, 89, 90, 91, 92, 93, 34, 35, 36, 94, 95, 96, 97, 98, 99, 43, 100, 101, 20, 21, 23, 102, 103, 104, 105, 106, 107, 108, 109, 110, 111, 112, 113, 114, 210, 211, 212, 213, 214, 215, 216, 217, 218, 219, 220, 221, 186, 222, 223, 224, 225, 226, 227, 228, 229, 230, 231, 232, 233, 234, 235, 236, 247, 248, 249, 241, 242, 237, 238, 239, 240, 243, 244, 245, 246, 250, 251] (by decide +kernel) (by decide +kernel)
set_option maxRecDepth 20000 in
theorem gL_isPlate_X6_count : GoodIn wsL_isPlate (wsV RL 40 RX6 yX6_count wsX6_count) := goodIn_app (goodIn_of _ (by decide +kernel)) ggL_isPlate_X6_count
theorem dL_isPlate_0 : decode cL_isPlate 0 = .ok (.iconst 0, 1) := by decide +kernel
theorem dL_isPlate_1 : decode cL_isPlate 1 = .ok (.istore_n 3, 1) := by decide +kernel
theorem dL_isPlate_2 : decode cL_isPlate 2 = .ok (.iconst 0, 1) := by decide +kernel
theorem dL_isPlate_3 : decode cL_isPlate 3 = .ok (.istore 4, 2) := by decide +kernel
theorem dL_isPlate_5 : decode cL_isPlate 5 = .ok (.iconst 0, 1) := by decide +kernel
theorem dL_isPlate_6 : decode cL_isPlate 6 = .ok (.istore 5, 2) := by decide +kernel
theorem dL_isPlate_8 : decode cL_isPlate 8 = .ok (.iconst 0, 1) := by decide +kernel
theorem dL_isPlate_9 : decode cL_isPlate 9 = .ok (.istore 6, 2) := by decide +kernel
theorem dL_isPlate_11 : decode cL_isPlate 11 = .ok (.iconst 0, 1) := by decide +kernel
theorem dL_isPlate_12 : decode cL_isPlate 12 = .ok (.istore 7, 2) := by decide +kernel
theorem dL_isPlate_14 : decode cL_isPlate 14 = .ok (.iconst 0, 1) := by decide +kernel
theorem dL_isPlate_15 : decode cL_isPlate 15 = .ok (.istore 8, 2) := by decide +kernel
theorem dL_isPlate_17 : decode cL_isPlate 17 = .ok (.iload 8, 2) := by decide +kernel
theorem dL_isPlate_19 : decode cL_isPlate 19 = .ok (.bipush 48, 2) := by decide +kernel
theorem dL_isPlate_21 : decode cL_isPlate 21 = .ok (.if_icmp .gt 177, 3) := by decide +kernel
theorem dL_isPlate_24 : decode cL_isPlate 24 = .ok (.iload 8, 2) := by decide +kernel
theorem dL_isPlate_26 : decode cL_isPlate 26 = .ok (.bipush 48, 2) := by decide +kernel
theorem dL_isPlate_28 : decode cL_isPlate 28 = .ok (.if_icmp .ne 13, 3) := by decide +kernel
theorem dL_isPlate_31 : decode cL_isPlate 31 = .ok (.aload_n 0, 1) := by decide +kernel
theorem dL_isPlate_32 : decode cL_isPlate 32 = .ok (.iload_n 1, 1) := by decide +kernel
theorem dL_isPlate_33 : decode cL_isPlate 33 = .ok (.iload_n 2, 1) := by decide +kernel
theorem dL_isPlate_34 : decode cL_isPlate 34 = .ok (.iconst 0, 1) := by decide +kernel
theorem dL_isPlate_35 : decode cL_isPlate 35 = .ok (.invokevirtual 30, 3) := by decide +kernel
theorem dL_isPlate_38 : decode cL_isPlate 38 = .ok (.goto 17, 3) := by decide +kernel
theorem dL_isPlate_41 : decode cL_isPlate 41 = .ok (.aload_n 0, 1) := by decide +kernel
theorem dL_isPlate_42 : decode cL_isPlate 42 = .ok (.iload_n 1, 1) := by decide +kernel
theorem dL_isPlate_43 : decode cL_isPlate 43 = .ok (.iload_n 2, 1) := by decide +kernel
theorem dL_isPlate_44 : decode cL_isPlate 44 = .ok (.iload 8, 2) := by decide +kernel
theorem dL_isPlate_46 : decode cL_isPlate 46 = .ok (.iconst 3, 1) := by decide +kernel
theorem dL_isPlate_47 : decode cL_isPlate 47 = .ok (.idiv, 1) := by decide +kernel
theorem dL_isPlate_48 : decode cL_isPlate 48 = .ok (.iload 8, 2) := by decide +kernel
theorem dL_isPlate_50 : decode cL_isPlate 50 = .ok (.iconst 3, 1) := by decide +kernel
theorem dL_isPlate_51 : decode cL_isPlate 51 = .ok (.irem, 1) := by decide +kernel
theorem dL_isPlate_52 : decode cL_isPlate 52 = .ok (.invokevirtual 33, 3) := by decide +kernel
theorem dL_isPlate_55 : decode cL_isPlate 55 = .ok (.istore 9, 2) := by decide +kernel
theorem dL_isPlate_57 : decode cL_isPlate 57 = .ok (.iload 8, 2) := by decide +kernel
theorem dL_isPlate_59 : decode cL_isPlate 59 = .ok (.bipush 48, 2) := by decide +kernel
theorem dL_isPlate_61 : decode cL_isPlate 61 = .ok (.if_icmp .ne 13, 3) := by decide +kernel
theorem dL_isPlate_64 : decode cL_isPlate 64 = .ok (.aload_n 0, 1) := by decide +kernel
theorem dL_isPlate_65 : decode cL_isPlate 65 = .ok (.iload_n 1, 1) := by decide +kernel
theorem dL_isPlate_66 : decode cL_isPlate 66 = .ok (.iload_n 2, 1) := by decide +kernel
theorem dL_isPlate_67 : decode cL_isPlate 67 = .ok (.iconst 3, 1) := by decide +kernel
theorem dL_isPlate_68 : decode cL_isPlate 68 = .ok (.invokevirtual 8, 3) := by decide +kernel
theorem dL_isPlate_71 : decode cL_isPlate 71 = .ok (.goto 17, 3) := by decide +kernel
theorem dL_isPlate_74 : decode cL_isPlate 74 = .ok (.aload_n 0, 1) := by decide +kernel
theorem dL_isPlate_75 : decode cL_isPlate 75 = .ok (.iload_n 1, 1) := by decide +kernel
theorem dL_isPlate_76 : decode cL_isPlate 76 = .ok (.iload_n 2, 1) := by decide +kernel
theorem dL_isPlate_77 : decode cL_isPlate 77 = .ok (.iload 8, 2) := by decide +kernel
theorem dL_isPlate_79 : decode cL_isPlate 79 = .ok (.iconst 3, 1) := by decide +kernel
theorem dL_isPlate_80 : decode cL_isPlate 80 = .ok (.idiv, 1) := by decide +kernel
theorem dL_isPlate_81 : decode cL_isPlate 81 = .ok (.iload 8, 2) := by decide +kernel
theorem dL_isPlate_83 : decode cL_isPlate 83 = .ok (.iconst 3, 1) := by decide +kernel
theorem dL_isPlate_84 : decode cL_isPlate 84 = .ok (.irem, 1) := by decide +kernel
theorem dL_isPlate_85 : decode cL_isPlate 85 = .ok (.invokevirtual 18, 3) := by decide +kernel
theorem dL_isPlate_88 : decode cL_isPlate 88 = .ok (.istore 10, 2) := by decide +kernel
theorem dL_isPlate_90 : decode cL_isPlate 90 = .ok (.iload_n 3, 1) := by decide +kernel
theorem dL_isPlate_91 : decode cL_isPlate 91 = .ok (.iload 9, 2) := by decide +kernel
theorem dL_isPlate_93 : decode cL_isPlate 93 = .ok (.iload 10, 2) := by decide +kernel
theorem dL_isPlate_95 : decode cL_isPlate 95 = .ok (.if_icmp .le 11, 3) := by decide +kernel
theorem dL_isPlate_98 : decode cL_isPlate 98 = .ok (.iload 9, 2) := by decide +kernel
theorem dL_isPlate_100 : decode cL_isPlate 100 = .ok (.iload 10, 2) := by decide +kernel
theorem dL_isPlate_102 : decode cL_isPlate 102 = .ok (.isub, 1) := by decide +kernel
theorem dL_isPlate_103 : decode cL_isPlate 103 = .ok (.goto 8, 3) := by decide +kernel
theorem dL_isPlate_106 : decode cL_isPlate 106 = .ok (.iload 10, 2) := by decide +kernel
theorem dL_isPlate_108 : decode cL_isPlate 108 = .ok (.iload 9, 2) := by decide +kernel
theorem dL_isPlate_110 : decode cL_isPlate 110 = .ok (.isub, 1) := by decide +kernel
theorem dL_isPlate_111 : decode cL_isPlate 111 = .ok (.iadd, 1) := by decide +kernel
theorem dL_isPlate_112 : decode cL_isPlate 112 = .ok (.istore_n 3, 1) := by decide +kernel
theorem dL_isPlate_113 : decode cL_isPlate 113 = .ok (.iload 4, 2) := by decide +kernel
theorem dL_isPlate_115 : decode cL_isPlate 115 = .ok (.iload 9, 2) := by decide +kernel
theorem dL_isPlate_117 : decode cL_isPlate 117 = .ok (.iload 10, 2) := by decide +kernel
theorem dL_isPlate_119 : decode cL_isPlate 119 = .ok (.if_icmp .le 7, 3) := by decide +kernel
theorem dL_isPlate_122 : decode cL_isPlate 122 = .ok (.iconst 1, 1) := by decide +kernel
theorem dL_isPlate_123 : decode cL_isPlate 123 = .ok (.goto 4, 3) := by decide +kernel
theorem dL_isPlate_126 : decode cL_isPlate 126 = .ok (.iconst 0, 1) := by decide +kernel
theorem dL_isPlate_127 : decode cL_isPlate 127 = .ok (.iadd, 1) := by decide +kernel
theorem dL_isPlate_128 : decode cL_isPlate 128 = .ok (.istore 4, 2) := by decide +kernel
theorem dL_isPlate_130 : decode cL_isPlate 130 = .ok (.iload 7, 2) := by decide +kernel
theorem dL_isPlate_132 : decode cL_isPlate 132 = .ok (.iload 9, 2) := by decide +kernel
theorem dL_isPlate_134 : decode cL_isPlate 134 = .ok (.iload 10, 2) := by decide +kernel
theorem dL_isPlate_136 : decode cL_isPlate 136 = .ok (.if_icmp .ne 7, 3) := by decide +kernel
theorem dL_isPlate_139 : decode cL_isPlate 139 = .ok (.iconst 0, 1) := by decide +kernel
theorem dL_isPlate_140 : decode cL_isPlate 140 = .ok (.goto 4, 3) := by decide +kernel
theorem dL_isPlate_143 : decode cL_isPlate 143 = .ok (.iconst 1, 1) := by decide +kernel
theorem dL_isPlate_144 : decode cL_isPlate 144 = .ok (.iadd, 1) := by decide +kernel
theorem dL_isPlate_145 : decode cL_isPlate 145 = .ok (.istore 7, 2) := by decide +kernel
theorem dL_isPlate_147 : decode cL_isPlate 147 = .ok (.iload 5, 2) := by decide +kernel
theorem dL_isPlate_149 : decode cL_isPlate 149 = .ok (.iload 8, 2) := by decide +kernel
theorem dL_isPlate_151 : decode cL_isPlate 151 = .ok (.bipush 48, 2) := by decide +kernel
theorem dL_isPlate_153 : decode cL_isPlate 153 = .ok (.if_icmp .ge 12, 3) := by decide +kernel
theorem dL_isPlate_156 : decode cL_isPlate 156 = .ok (.iload 9, 2) := by decide +kernel
theorem dL_isPlate_158 : decode cL_isPlate 158 = .ok (.ifCond .le 7, 3) := by decide +kernel
theorem dL_isPlate_161 : decode cL_isPlate 161 = .ok (.iconst 1, 1) := by decide +kernel
theorem dL_isPlate_162 : decode cL_isPlate 162 = .ok (.goto 4, 3) := by decide +kernel
theorem dL_isPlate_165 : decode cL_isPlate 165 = .ok (.iconst 0, 1) := by decide +kernel
theorem dL_isPlate_166 : decode cL_isPlate 166 = .ok (.iadd, 1) := by decide +kernel
theorem dL_isPlate_167 : decode cL_isPlate 167 = .ok (.istore 5, 2) := by decide +kernel
theorem dL_isPlate_169 : decode cL_isPlate 169 = .ok (.iload 8, 2) := by decide +kernel
theorem dL_isPlate_171 : decode cL_isPlate 171 = .ok (.bipush 48, 2) := by decide +kernel
theorem dL_isPlate_173 : decode cL_isPlate 173 = .ok (.if_icmp .ge 15, 3) := by decide +kernel
theorem dL_isPlate_176 : decode cL_isPlate 176 = .ok (.iload 9, 2) := by decide +kernel
theorem dL_isPlate_178 : decode cL_isPlate 178 = .ok (.iload 6, 2) := by decide +kernel
theorem dL_isPlate_180 : decode cL_isPlate 180 = .ok (.if_icmp .le 8, 3) := by decide +kernel
theorem dL_isPlate_183 : decode cL_isPlate 183 = .ok (.iload 9, 2) := by decide +kernel
theorem dL_isPlate_185 : decode cL_isPlate 185 = .ok (.goto 5, 3) := by decide +kernel
theorem dL_isPlate_188 : decode cL_isPlate 188 = .ok (.iload 6, 2) := by decide +kernel
theorem dL_isPlate_190 : decode cL_isPlate 190 = .ok (.istore 6, 2) := by decide +kernel
theorem dL_isPlate_192 : decode cL_isPlate 192 = .ok (.iinc 8 1, 3) := by decide +kernel
theorem dL_isPlate_195 : decode cL_isPlate 195 = .ok (.goto (-178), 3) := by decide +kernel
theorem dL_isPlate_198 : decode cL_isPlate 198 = .ok (.aload_n 0, 1) := by decide +kernel
theorem dL_isPlate_199 : decode cL_isPlate 199 = .ok (.iload_n 1, 1) := by decide +kernel
theorem dL_isPlate_200 : decode cL_isPlate 200 = .ok (.iload_n 2, 1) := by decide +kernel
theorem dL_isPlate_201 : decode cL_isPlate 201 = .ok (.iconst 1, 1) := by decide +kernel
theorem dL_isPlate_202 : decode cL_isPlate 202 = .ok (.invokevirtual 30, 3) := by decide +kernel
theorem dL_isPlate_205 : decode cL_isPlate 205 = .ok (.istore 8, 2) := by decide +kernel
theorem dL_isPlate_207 : decode cL_isPlate 207 = .ok (.aload_n 0, 1) := by decide +kernel
theorem dL_isPlate_208 : decode cL_isPlate 208 = .ok (.iload_n 1, 1) := by decide +kernel
theorem dL_isPlate_209 : decode cL_isPlate 209 = .ok (.iload_n 2, 1) := by decide +kernel
theorem dL_isPlate_210 : decode cL_isPlate 210 = .ok (.invokevirtual 36, 3) := by decide +kernel
theorem dL_isPlate_213 : decode cL_isPlate 213 = .ok (.istore 9, 2) := by decide +kernel
theorem dL_isPlate_215 : decode cL_isPlate 215 = .ok (.aload_n 0, 1) := by decide +kernel
theorem dL_isPlate_216 : decode cL_isPlate 216 = .ok (.iload_n 1, 1) := by decide +kernel
theorem dL_isPlate_217 : decode cL_isPlate 217 = .ok (.iload_n 2, 1) := by decide +kernel
theorem dL_isPlate_218 : decode cL_isPlate 218 = .ok (.iconst 0, 1) := by decide +kernel
theorem dL_isPlate_219 : decode cL_isPlate 219 = .ok (.invokevirtual 8, 3) := by decide +kernel
theorem dL_isPlate_222 : decode cL_isPlate 222 = .ok (.ifCond .ne 17, 3) := by decide +kernel
theorem dL_isPlate_225 : decode cL_isPlate 225 = .ok (.iload 9, 2) := by decide +kernel
theorem dL_isPlate_227 : decode cL_isPlate 227 = .ok (.iconst 1, 1) := by decide +kernel
theorem dL_isPlate_228 : decode cL_isPlate 228 = .ok (.if_icmp .ne 7, 3) := by decide +kernel
theorem dL_isPlate_231 : decode cL_isPlate 231 = .ok (.iconst 1, 1) := by decide +kernel
theorem dL_isPlate_232 : decode cL_isPlate 232 = .ok (.goto 69, 3) := by decide +kernel
theorem dL_isPlate_235 : decode cL_isPlate 235 = .ok (.iconst 0, 1) := by decide +kernel
theorem dL_isPlate_236 : decode cL_isPlate 236 = .ok (.goto 65, 3) := by decide +kernel
theorem dL_isPlate_239 : decode cL_isPlate 239 = .ok (.iload 7, 2) := by decide +kernel
theorem dL_isPlate_241 : decode cL_isPlate 241 = .ok (.ifCond .ne 17, 3) := by decide +kernel
theorem dL_isPlate_244 : decode cL_isPlate 244 = .ok (.iload 9, 2) := by decide +kernel
theorem dL_isPlate_246 : decode cL_isPlate 246 = .ok (.iconst 2, 1) := by decide +kernel
theorem dL_isPlate_247 : decode cL_isPlate 247 = .ok (.if_icmp .ne 7, 3) := by decide +kernel
theorem dL_isPlate_250 : decode cL_isPlate 250 = .ok (.iconst 1, 1) := by decide +kernel
theorem dL_isPlate_251 : decode cL_isPlate 251 = .ok (.goto 50, 3) := by decide +kernel
theorem dL_isPlate_254 : decode cL_isPlate 254 = .ok (.iconst 0, 1) := by decide +kernel
theorem dL_isPlate_255 : decode cL_isPlate 255 = .ok (.goto 46, 3) := by decide +kernel
theorem dL_isPlate_258 : decode cL_isPlate 258 = .ok (.iload 4, 2) := by decide +kernel
theorem dL_isPlate_260 : decode cL_isPlate 260 = .ok (.ifCond .le 31, 3) := by decide +kernel
theorem dL_isPlate_263 : decode cL_isPlate 263 = .ok (.iload 8, 2) := by decide +kernel
theorem dL_isPlate_265 : decode cL_isPlate 265 = .ok (.iload 4, 2) := by decide +kernel
theorem dL_isPlate_267 : decode cL_isPlate 267 = .ok (.iadd, 1) := by decide +kernel
theorem dL_isPlate_268 : decode cL_isPlate 268 = .ok (.aload_n 0, 1) := by decide +kernel
theorem dL_isPlate_269 : decode cL_isPlate 269 = .ok (.bipush 8, 2) := by decide +kernel
theorem dL_isPlate_271 : decode cL_isPlate 271 = .ok (.invokevirtual 40, 3) := by decide +kernel
theorem dL_isPlate_274 : decode cL_isPlate 274 = .ok (.if_icmp .le 17, 3) := by decide +kernel
theorem dL_isPlate_277 : decode cL_isPlate 277 = .ok (.iload 9, 2) := by decide +kernel
theorem dL_isPlate_279 : decode cL_isPlate 279 = .ok (.iconst 3, 1) := by decide +kernel
theorem dL_isPlate_280 : decode cL_isPlate 280 = .ok (.if_icmp .ne 7, 3) := by decide +kernel
theorem dL_isPlate_283 : decode cL_isPlate 283 = .ok (.iconst 1, 1) := by decide +kernel
theorem dL_isPlate_284 : decode cL_isPlate 284 = .ok (.goto 17, 3) := by decide +kernel
theorem dL_isPlate_287 : decode cL_isPlate 287 = .ok (.iconst 0, 1) := by decide +kernel
theorem dL_isPlate_288 : decode cL_isPlate 288 = .ok (.goto 13, 3) := by decide +kernel
theorem dL_isPlate_291 : decode cL_isPlate 291 = .ok (.iload 9, 2) := by decide +kernel
theorem dL_isPlate_293 : decode cL_isPlate 293 = .ok (.ifCond .ne 7, 3) := by decide +kernel
theorem dL_isPlate_296 : decode cL_isPlate 296 = .ok (.iconst 1, 1) := by decide +kernel
theorem dL_isPlate_297 : decode cL_isPlate 297 = .ok (.goto 4, 3) := by decide +kernel
theorem dL_isPlate_300 : decode cL_isPlate 300 = .ok (.iconst 0, 1) := by decide +kernel
theorem dL_isPlate_301 : decode cL_isPlate 301 = .ok (.istore 10, 2) := by decide +kernel
theorem dL_isPlate_303 : decode cL_isPlate 303 = .ok (.iload 10, 2) := by decide +kernel
theorem dL_isPlate_305 : decode cL_isPlate 305 = .ok (.ifCond .eq 66, 3) := by decide +kernel
theorem dL_isPlate_308 : decode cL_isPlate 308 = .ok (.iload 8, 2) := by decide +kernel
theorem dL_isPlate_310 : decode cL_isPlate 310 = .ok (.ifCond .lt 61, 3) := by decide +kernel
theorem dL_isPlate_313 : decode cL_isPlate 313 = .ok (.iload 8, 2) := by decide +kernel
theorem dL_isPlate_315 : decode cL_isPlate 315 = .ok (.bipush 10, 2) := by decide +kernel
theorem dL_isPlate_317 : decode cL_isPlate 317 = .ok (.if_icmp .ge 54, 3) := by decide +kernel
theorem dL_isPlate_320 : decode cL_isPlate 320 = .ok (.aload_n 0, 1) := by decide +kernel
theorem dL_isPlate_321 : decode cL_isPlate 321 = .ok (.iload_n 1, 1) := by decide +kernel
theorem dL_isPlate_322 : decode cL_isPlate 322 = .ok (.iload_n 2, 1) := by decide +kernel
theorem dL_isPlate_323 : decode cL_isPlate 323 = .ok (.iconst 2, 1) := by decide +kernel
theorem dL_isPlate_324 : decode cL_isPlate 324 = .ok (.invokevirtual 30, 3) := by decide +kernel
theorem dL_isPlate_327 : decode cL_isPlate 327 = .ok (.iload 5, 2) := by decide +kernel
theorem dL_isPlate_329 : decode cL_isPlate 329 = .ok (.if_icmp .ne 42, 3) := by decide +kernel
theorem dL_isPlate_332 : decode cL_isPlate 332 = .ok (.aload_n 0, 1) := by decide +kernel
theorem dL_isPlate_333 : decode cL_isPlate 333 = .ok (.iload_n 1, 1) := by decide +kernel
theorem dL_isPlate_334 : decode cL_isPlate 334 = .ok (.iload_n 2, 1) := by decide +kernel
theorem dL_isPlate_335 : decode cL_isPlate 335 = .ok (.iconst 3, 1) := by decide +kernel
theorem dL_isPlate_336 : decode cL_isPlate 336 = .ok (.invokevirtual 30, 3) := by decide +kernel
theorem dL_isPlate_339 : decode cL_isPlate 339 = .ok (.iload 6, 2) := by decide +kernel
theorem dL_isPlate_341 : decode cL_isPlate 341 = .ok (.if_icmp .ne 30, 3) := by decide +kernel
theorem dL_isPlate_344 : decode cL_isPlate 344 = .ok (.aload_n 0, 1) := by decide +kernel
theorem dL_isPlate_345 : decode cL_isPlate 345 = .ok (.iload_n 1, 1) := by decide +kernel
theorem dL_isPlate_346 : decode cL_isPlate 346 = .ok (.iload_n 2, 1) := by decide +kernel
theorem dL_isPlate_347 : decode cL_isPlate 347 = .ok (.iconst 4, 1) := by decide +kernel
theorem dL_isPlate_348 : decode cL_isPlate 348 = .ok (.invokevirtual 30, 3) := by decide +kernel
theorem dL_isPlate_351 : decode cL_isPlate 351 = .ok (.iload_n 3, 1) := by decide +kernel
theorem dL_isPlate_352 : decode cL_isPlate 352 = .ok (.if_icmp .ne 19, 3) := by decide +kernel
theorem dL_isPlate_355 : decode cL_isPlate 355 = .ok (.aload_n 0, 1) := by decide +kernel
theorem dL_isPlate_356 : decode cL_isPlate 356 = .ok (.iload_n 1, 1) := by decide +kernel
theorem dL_isPlate_357 : decode cL_isPlate 357 = .ok (.iload_n 2, 1) := by decide +kernel
theorem dL_isPlate_358 : decode cL_isPlate 358 = .ok (.iconst 5, 1) := by decide +kernel
theorem dL_isPlate_359 : decode cL_isPlate 359 = .ok (.invokevirtual 30, 3) := by decide +kernel
theorem dL_isPlate_362 : decode cL_isPlate 362 = .ok (.iload 4, 2) := by decide +kernel
theorem dL_isPlate_364 : decode cL_isPlate 364 = .ok (.if_icmp .ne 7, 3) := by decide +kernel
theorem dL_isPlate_367 : decode cL_isPlate 367 = .ok (.iconst 1, 1) := by decide +kernel
theorem dL_isPlate_368 : decode cL_isPlate 368 = .ok (.goto 4, 3) := by decide +kernel
theorem dL_isPlate_371 : decode cL_isPlate 371 = .ok (.iconst 0, 1) := by decide +kernel
theorem dL_isPlate_372 : decode cL_isPlate 372 = .ok (.ireturn, 1) := by decide +kernel
