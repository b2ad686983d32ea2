set_option maxRecDepth 20000 in
theorem ggL_areAll_X6_plate : GoodIn wsL_areAll wsX6_plate := goodIn_r _ [5, 6, 7, 8, 9, 10, 11, 4, 12, 13, 14, 15, 16, 17, 18, 19, 20, 21, 22, 23, 24, 25, 26, 27, 28, 29, 30, 31, 32, 33, 34, 35, 36, 37, 38, 39, 40, 41, 42, 43, 44, 45, 46, 47, 48, 49, 50, 51, 52, 53, 54, 55, 56, 57, 58, 59, 60, 61, 62, 63, 64, 65, 66, 67, 68, 69, 70, 71, 72, 73, 74, 75, 76, 77, 78, 79, 80, 81, 82, 83, 84, 85, 86, 87, 88, 89, 90, 91, 92, 93, 94, 95, 96, 97, 98, 99, 100, 101, 102, 103, 104, 105, 106, 107, 108, 109, 110, 111, 112, 113, 114, 210, 211, 212, 213, 214, 215, 216, 217, 218, 219, 220, 221, 222, 223, 224, 225, 226, 227, 228] (by decide +kernel) (by decide +kernel)
set_option maxRecDepth 20000 in
theorem gL_areAll_X6_plate : GoodIn wsL_areAll (wsV RL 30 RX6 yX6_plate wsX6_plate) := goodIn_app (goodIn_of _ (by decide +kernel)) ggL_areAll_X6_plate
set_option maxRecDepth 20000 in
theorem ggL_areAll_X6_rose : GoodIn wsL_areAll wsX6_rose := goodIn_r _ [118, 6, 10, 11, 4, 12, 13, 14, 15, 16, 17, 18, 119, 107, 108, 22, 109, 110, 68, 69, 70, 24, 111, 112, 113, 114, 120, 121, 122, 103, 104, 105, 106, 123, 124, 125, 126, 127, 128, 129, 130, 131, 132, 133, 134, 135, 136, 137, 138, 139, 140, 141, 142, 143, 144, 145, 146, 78, 79, 80, 81, 82, 83, 84, 85, 86, 87, 88, 147, 148, 149, 150, 151, 152, 153, 154, 210, 211, 212, 213, 214, 215, 216, 217, 218, 223, 224] (by decide +kernel) (by decide +kernel)
set_option maxRecDepth 20000 in
theorem gL_areAll_X6_rose : GoodIn wsL_areAll (wsV RL 8 RX6 yX6_rose wsX6_rose) := goodIn_app (goodIn_of _ (by decide +kernel)) ggL_areAll_X6_rose
set_option maxRecDepth 20000 in
theorem ggL_areAll_X6_reason : GoodIn wsL_areAll wsX6_reason := goodIn_r _ [158, 10, 11, 4, 12, 13, 14, 15, 16, 17, 18, 159, 160, 161, 162, 6, 7, 163, 9, 119, 107, 108, 22, 109, 110, 68, 69, 70, 24, 111, 112, 113, 114, 45, 46, 47, 48, 49, 50, 51, 52, 53, 54, 55, 56, 57, 58, 59, 60, 61, 62, 63, 64, 65, 66, 67, 71, 72, 73, 74, 75, 76, 77, 78, 79, 80, 81, 82, 83, 84, 85, 86, 87, 88, 89, 90, 91, 92, 93, 34, 35, 36, 94, 95, 96, 97, 98, 99, 43, 100, 101, 20, 21, 23, 102, 103, 104, 105, 106, 25, 26, 27, 28, 164, 210, 211, 212, 213, 214, 215, 216, 217, 218, 219, 220, 221, 222, 223, 224, 225, 226, 227, 228] (by decide +kernel) (by decide +kernel)
set_option maxRecDepth 20000 in
theorem gL_areAll_X6_reason : GoodIn wsL_areAll (wsV RL 36 RX6 yX6_reason wsX6_reason) := goodIn_app (goodIn_of _ (by decide +kernel)) ggL_areAll_X6_reason
set_option maxRecDepth 20000 in
theorem ggL_areAll_X6_count : GoodIn wsL_areAll wsX6_count := goodIn_r _ [168, 6, 169, 170, 171, 172, 173, 174, 22, 175, 176, 177, 178, 179, 24, 180, 181, 182, 183, 184, 185, 186, 4, 187, 7, 163, 45, 46, 47, 48, 49, 50, 51, 52, 53, 54, 55, 56, 57, 58, 59, 60, 61, 62, 63, 64, 65, 66, 67, 68, 69, 70, 71, 72, 73, 74, 75, 76, 77, 78, 79, 80, 81, 82, 83, 84, 85, 86, 87, 88, 89, 90, 91, 92, 93, 34, 35, 36, 94, 95, 96, 97, 98, 99, 43, 100, 101, 20, 21, 23, 102, 103, 104, 105, 106, 107, 108, 109, 110, 111, 112, 113, 114, 188, 189, 190, 191, 192, 193, 194, 195, 196, 197, 198, 199, 164, 200, 201, 202, 203, 204, 205, 210, 211, 212, 213, 214, 215, 216, 217, 218, 229, 230, 231, 223, 224, 219, 220, 221, 222, 225, 226, 227, 228, 232, 233] (by decide +kernel) (by decide +kernel)
set_option maxRecDepth 20000 in
theorem gL_areAll_X6_count : GoodIn wsL_areAll (wsV RL 40 RX6 yX6_count wsX6_count) := goodIn_app (goodIn_of _ (by decide +kernel)) ggL_areAll_X6_count
set_option maxRecDepth 20000 in
theorem ggL_areAll_X6_nextPlate : GoodIn wsL_areAll wsX6_nextPlate := goodIn_r _ [209, 7, 8, 159, 160, 161, 4, 162, 6, 163, 9, 119, 107, 108, 22, 109, 110, 68, 69, 70, 24, 111, 112, 113, 114, 45, 46, 47, 48, 49, 50, 51, 52, 53, 54, 55, 56, 57, 58, 59, 60, 61, 62, 63, 64, 65, 66, 67, 71, 72, 73, 74, 75, 76, 77, 78, 79, 80, 81, 82, 83, 84, 85, 86, 87, 88, 89, 90, 91, 92, 93, 34, 35, 36, 94, 95, 96, 97, 98, 99, 43, 100, 101, 20, 21, 23, 102, 103, 104, 105, 106, 25, 26, 27, 28, 164, 210, 211, 212, 213, 214, 215, 216, 217, 218, 219, 220, 221, 222, 223, 224, 225, 226, 227, 228] (by decide +kernel) (by decide +kernel)
set_option maxRecDepth 20000 in
theorem gL_areAll_X6_nextPlate : GoodIn wsL_areAll (wsV RL 44 RX6 yX6_nextPlate wsX6_nextPlate) := goodIn_app (goodIn_of _ (by decide +kernel)) ggL_areAll_X6_nextPlate
theorem dL_areAll_0 : decode cL_areAll 0 = .ok (.iconst 0, 1) := by decide +kernel
theorem dL_areAll_1 : decode cL_areAll 1 = .ok (.istore_n 1, 1) := by decide +kernel
theorem dL_areAll_2 : decode cL_areAll 2 = .ok (.iconst 0, 1) := by decide +kernel
theorem dL_areAll_3 : decode cL_areAll 3 = .ok (.istore_n 2, 1) := by decide +kernel
theorem dL_areAll_4 : decode cL_areAll 4 = .ok (.iconst 0, 1) := by decide +kernel
theorem dL_areAll_5 : decode cL_areAll 5 = .ok (.istore_n 3, 1) := by decide +kernel
theorem dL_areAll_6 : decode cL_areAll 6 = .ok (.iconst 0, 1) := by decide +kernel
theorem dL_areAll_7 : decode cL_areAll 7 = .ok (.istore 4, 2) := by decide +kernel
theorem dL_areAll_9 : decode cL_areAll 9 = .ok (.bipush (-5), 2) := by decide +kernel
theorem dL_areAll_11 : decode cL_areAll 11 = .ok (.istore 5, 2) := by decide +kernel
theorem dL_areAll_13 : decode cL_areAll 13 = .ok (.iconst 0, 1) := by decide +kernel
theorem dL_areAll_14 : decode cL_areAll 14 = .ok (.istore 6, 2) := by decide +kernel
theorem dL_areAll_16 : decode cL_areAll 16 = .ok (.iconst 0, 1) := by decide +kernel
theorem dL_areAll_17 : decode cL_areAll 17 = .ok (.istore 7, 2) := by decide +kernel
theorem dL_areAll_19 : decode cL_areAll 19 = .ok (.iload 7, 2) := by decide +kernel
theorem dL_areAll_21 : decode cL_areAll 21 = .ok (.bipush 16, 2) := by decide +kernel
theorem dL_areAll_23 : decode cL_areAll 23 = .ok (.if_icmp .ge 144, 3) := by decide +kernel
theorem dL_areAll_26 : decode cL_areAll 26 = .ok (.aload_n 0, 1) := by decide +kernel
theorem dL_areAll_27 : decode cL_areAll 27 = .ok (.iload 7, 2) := by decide +kernel
theorem dL_areAll_29 : decode cL_areAll 29 = .ok (.iconst 4, 1) := by decide +kernel
theorem dL_areAll_30 : decode cL_areAll 30 = .ok (.idiv, 1) := by decide +kernel
theorem dL_areAll_31 : decode cL_areAll 31 = .ok (.iload 7, 2) := by decide +kernel
theorem dL_areAll_33 : decode cL_areAll 33 = .ok (.iconst 4, 1) := by decide +kernel
theorem dL_areAll_34 : decode cL_areAll 34 = .ok (.irem, 1) := by decide +kernel
theorem dL_areAll_35 : decode cL_areAll 35 = .ok (.iconst 4, 1) := by decide +kernel
theorem dL_areAll_36 : decode cL_areAll 36 = .ok (.invokevirtual 30, 3) := by decide +kernel
theorem dL_areAll_39 : decode cL_areAll 39 = .ok (.istore 8, 2) := by decide +kernel
theorem dL_areAll_41 : decode cL_areAll 41 = .ok (.iload_n 1, 1) := by decide +kernel
theorem dL_areAll_42 : decode cL_areAll 42 = .ok (.aload_n 0, 1) := by decide +kernel
theorem dL_areAll_43 : decode cL_areAll 43 = .ok (.iload 7, 2) := by decide +kernel
theorem dL_areAll_45 : decode cL_areAll 45 = .ok (.iconst 4, 1) := by decide +kernel
theorem dL_areAll_46 : decode cL_areAll 46 = .ok (.idiv, 1) := by decide +kernel
theorem dL_areAll_47 : decode cL_areAll 47 = .ok (.iload 7, 2) := by decide +kernel
theorem dL_areAll_49 : decode cL_areAll 49 = .ok (.iconst 4, 1) := by decide +kernel
theorem dL_areAll_50 : decode cL_areAll 50 = .ok (.irem, 1) := by decide +kernel
theorem dL_areAll_51 : decode cL_areAll 51 = .ok (.iconst 0, 1) := by decide +kernel
theorem dL_areAll_52 : decode cL_areAll 52 = .ok (.invokevirtual 8, 3) := by decide +kernel
theorem dL_areAll_55 : decode cL_areAll 55 = .ok (.iadd, 1) := by decide +kernel
theorem dL_areAll_56 : decode cL_areAll 56 = .ok (.istore_n 1, 1) := by decide +kernel
theorem dL_areAll_57 : decode cL_areAll 57 = .ok (.iload_n 2, 1) := by decide +kernel
theorem dL_areAll_58 : decode cL_areAll 58 = .ok (.aload_n 0, 1) := by decide +kernel
theorem dL_areAll_59 : decode cL_areAll 59 = .ok (.iload 7, 2) := by decide +kernel
theorem dL_areAll_61 : decode cL_areAll 61 = .ok (.iconst 4, 1) := by decide +kernel
theorem dL_areAll_62 : decode cL_areAll 62 = .ok (.idiv, 1) := by decide +kernel
theorem dL_areAll_63 : decode cL_areAll 63 = .ok (.iload 7, 2) := by decide +kernel
theorem dL_areAll_65 : decode cL_areAll 65 = .ok (.iconst 4, 1) := by decide +kernel
theorem dL_areAll_66 : decode cL_areAll 66 = .ok (.irem, 1) := by decide +kernel
theorem dL_areAll_67 : decode cL_areAll 67 = .ok (.iconst 2, 1) := by decide +kernel
theorem dL_areAll_68 : decode cL_areAll 68 = .ok (.invokevirtual 8, 3) := by decide +kernel
theorem dL_areAll_71 : decode cL_areAll 71 = .ok (.iadd, 1) := by decide +kernel
theorem dL_areAll_72 : decode cL_areAll 72 = .ok (.istore_n 2, 1) := by decide +kernel
theorem dL_areAll_73 : decode cL_areAll 73 = .ok (.iload_n 3, 1) := by decide +kernel
theorem dL_areAll_74 : decode cL_areAll 74 = .ok (.iload 8, 2) := by decide +kernel
theorem dL_areAll_76 : decode cL_areAll 76 = .ok (.ifCond .le 7, 3) := by decide +kernel
theorem dL_areAll_79 : decode cL_areAll 79 = .ok (.iconst 1, 1) := by decide +kernel
theorem dL_areAll_80 : decode cL_areAll 80 = .ok (.goto 4, 3) := by decide +kernel
theorem dL_areAll_83 : decode cL_areAll 83 = .ok (.iconst 0, 1) := by decide +kernel
theorem dL_areAll_84 : decode cL_areAll 84 = .ok (.iadd, 1) := by decide +kernel
theorem dL_areAll_85 : decode cL_areAll 85 = .ok (.istore_n 3, 1) := by decide +kernel
theorem dL_areAll_86 : decode cL_areAll 86 = .ok (.iload 4, 2) := by decide +kernel
theorem dL_areAll_88 : decode cL_areAll 88 = .ok (.aload_n 0, 1) := by decide +kernel
theorem dL_areAll_89 : decode cL_areAll 89 = .ok (.iload 7, 2) := by decide +kernel
theorem dL_areAll_91 : decode cL_areAll 91 = .ok (.iconst 4, 1) := by decide +kernel
theorem dL_areAll_92 : decode cL_areAll 92 = .ok (.idiv, 1) := by decide +kernel
theorem dL_areAll_93 : decode cL_areAll 93 = .ok (.iload 7, 2) := by decide +kernel
theorem dL_areAll_95 : decode cL_areAll 95 = .ok (.iconst 4, 1) := by decide +kernel
theorem dL_areAll_96 : decode cL_areAll 96 = .ok (.irem, 1) := by decide +kernel
theorem dL_areAll_97 : decode cL_areAll 97 = .ok (.iconst 1, 1) := by decide +kernel
theorem dL_areAll_98 : decode cL_areAll 98 = .ok (.invokevirtual 30, 3) := by decide +kernel
theorem dL_areAll_101 : decode cL_areAll 101 = .ok (.iadd, 1) := by decide +kernel
theorem dL_areAll_102 : decode cL_areAll 102 = .ok (.istore 4, 2) := by decide +kernel
theorem dL_areAll_104 : decode cL_areAll 104 = .ok (.aload_n 0, 1) := by decide +kernel
theorem dL_areAll_105 : decode cL_areAll 105 = .ok (.iload 7, 2) := by decide +kernel
theorem dL_areAll_107 : decode cL_areAll 107 = .ok (.iconst 4, 1) := by decide +kernel
theorem dL_areAll_108 : decode cL_areAll 108 = .ok (.idiv, 1) := by decide +kernel
theorem dL_areAll_109 : decode cL_areAll 109 = .ok (.iload 7, 2) := by decide +kernel
theorem dL_areAll_111 : decode cL_areAll 111 = .ok (.iconst 4, 1) := by decide +kernel
theorem dL_areAll_112 : decode cL_areAll 112 = .ok (.irem, 1) := by decide +kernel
theorem dL_areAll_113 : decode cL_areAll 113 = .ok (.invokevirtual 36, 3) := by decide +kernel
theorem dL_areAll_116 : decode cL_areAll 116 = .ok (.ifCond .ne 14, 3) := by decide +kernel
theorem dL_areAll_119 : decode cL_areAll 119 = .ok (.iload 8, 2) := by decide +kernel
theorem dL_areAll_121 : decode cL_areAll 121 = .ok (.iload 6, 2) := by decide +kernel
theorem dL_areAll_123 : decode cL_areAll 123 = .ok (.if_icmp .le 7, 3) := by decide +kernel
theorem dL_areAll_126 : decode cL_areAll 126 = .ok (.iconst 1, 1) := by decide +kernel
theorem dL_areAll_127 : decode cL_areAll 127 = .ok (.goto 4, 3) := by decide +kernel
theorem dL_areAll_130 : decode cL_areAll 130 = .ok (.iconst 0, 1) := by decide +kernel
theorem dL_areAll_131 : decode cL_areAll 131 = .ok (.istore 9, 2) := by decide +kernel
theorem dL_areAll_133 : decode cL_areAll 133 = .ok (.iload 9, 2) := by decide +kernel
theorem dL_areAll_135 : decode cL_areAll 135 = .ok (.ifCond .eq 8, 3) := by decide +kernel
theorem dL_areAll_138 : decode cL_areAll 138 = .ok (.iload 7, 2) := by decide +kernel
theorem dL_areAll_140 : decode cL_areAll 140 = .ok (.goto 5, 3) := by decide +kernel
theorem dL_areAll_143 : decode cL_areAll 143 = .ok (.iload 5, 2) := by decide +kernel
theorem dL_areAll_145 : decode cL_areAll 145 = .ok (.istore 5, 2) := by decide +kernel
theorem dL_areAll_147 : decode cL_areAll 147 = .ok (.iload 9, 2) := by decide +kernel
theorem dL_areAll_149 : decode cL_areAll 149 = .ok (.ifCond .eq 8, 3) := by decide +kernel
theorem dL_areAll_152 : decode cL_areAll 152 = .ok (.iload 8, 2) := by decide +kernel
theorem dL_areAll_154 : decode cL_areAll 154 = .ok (.goto 5, 3) := by decide +kernel
theorem dL_areAll_157 : decode cL_areAll 157 = .ok (.iload 6, 2) := by decide +kernel
theorem dL_areAll_159 : decode cL_areAll 159 = .ok (.istore 6, 2) := by decide +kernel
theorem dL_areAll_161 : decode cL_areAll 161 = .ok (.iinc 7 1, 3) := by decide +kernel
theorem dL_areAll_164 : decode cL_areAll 164 = .ok (.goto (-145), 3) := by decide +kernel
theorem dL_areAll_167 : decode cL_areAll 167 = .ok (.aload_n 0, 1) := by decide +kernel
theorem dL_areAll_168 : decode cL_areAll 168 = .ok (.iconst 0, 1) := by decide +kernel
theorem dL_areAll_169 : decode cL_areAll 169 = .ok (.invokevirtual 40, 3) := by decide +kernel
theorem dL_areAll_172 : decode cL_areAll 172 = .ok (.iload_n 1, 1) := by decide +kernel
theorem dL_areAll_173 : decode cL_areAll 173 = .ok (.if_icmp .ne 59, 3) := by decide +kernel
theorem dL_areAll_176 : decode cL_areAll 176 = .ok (.aload_n 0, 1) := by decide +kernel
theorem dL_areAll_177 : decode cL_areAll 177 = .ok (.iconst 1, 1) := by decide +kernel
theorem dL_areAll_178 : decode cL_areAll 178 = .ok (.invokevirtual 40, 3) := by decide +kernel
theorem dL_areAll_181 : decode cL_areAll 181 = .ok (.iload_n 2, 1) := by decide +kernel
theorem dL_areAll_182 : decode cL_areAll 182 = .ok (.if_icmp .ne 50, 3) := by decide +kernel
theorem dL_areAll_185 : decode cL_areAll 185 = .ok (.aload_n 0, 1) := by decide +kernel
theorem dL_areAll_186 : decode cL_areAll 186 = .ok (.iconst 2, 1) := by decide +kernel
theorem dL_areAll_187 : decode cL_areAll 187 = .ok (.invokevirtual 40, 3) := by decide +kernel
theorem dL_areAll_190 : decode cL_areAll 190 = .ok (.iload_n 3, 1) := by decide +kernel
theorem dL_areAll_191 : decode cL_areAll 191 = .ok (.if_icmp .ne 41, 3) := by decide +kernel
theorem dL_areAll_194 : decode cL_areAll 194 = .ok (.aload_n 0, 1) := by decide +kernel
theorem dL_areAll_195 : decode cL_areAll 195 = .ok (.iconst 3, 1) := by decide +kernel
theorem dL_areAll_196 : decode cL_areAll 196 = .ok (.invokevirtual 40, 3) := by decide +kernel
theorem dL_areAll_199 : decode cL_areAll 199 = .ok (.iload 4, 2) := by decide +kernel
theorem dL_areAll_201 : decode cL_areAll 201 = .ok (.if_icmp .ne 31, 3) := by decide +kernel
theorem dL_areAll_204 : decode cL_areAll 204 = .ok (.aload_n 0, 1) := by decide +kernel
theorem dL_areAll_205 : decode cL_areAll 205 = .ok (.invokevirtual 44, 3) := by decide +kernel
theorem dL_areAll_208 : decode cL_areAll 208 = .ok (.iload 5, 2) := by decide +kernel
theorem dL_areAll_210 : decode cL_areAll 210 = .ok (.if_icmp .ne 22, 3) := by decide +kernel
theorem dL_areAll_213 : decode cL_areAll 213 = .ok (.aload_n 0, 1) := by decide +kernel
theorem dL_areAll_214 : decode cL_areAll 214 = .ok (.bipush 6, 2) := by decide +kernel
theorem dL_areAll_216 : decode cL_areAll 216 = .ok (.invokevirtual 40, 3) := by decide +kernel
theorem dL_areAll_219 : decode cL_areAll 219 = .ok (.aload_n 0, 1) := by decide +kernel
theorem dL_areAll_220 : decode cL_areAll 220 = .ok (.bipush 7, 2) := by decide +kernel
theorem dL_areAll_222 : decode cL_areAll 222 = .ok (.invokevirtual 40, 3) := by decide +kernel
theorem dL_areAll_225 : decode cL_areAll 225 = .ok (.if_icmp .ge 7, 3) := by decide +kernel
theorem dL_areAll_228 : decode cL_areAll 228 = .ok (.iconst 1, 1) := by decide +kernel
theorem dL_areAll_229 : decode cL_areAll 229 = .ok (.goto 4, 3) := by decide +kernel
theorem dL_areAll_232 : decode cL_areAll 232 = .ok (.iconst 0, 1) := by decide +kernel
theorem dL_areAll_233 : decode cL_areAll 233 = .ok (.ireturn, 1) := by decide +kernel
set_option maxRecDepth 20000 in
theorem ggL_isEngraved_X6_reason : GoodIn wsL_isEngraved wsX6_reason := goodIn_r _ [5, 6, 7, 4, 8, 9, 10, 11, 12, 13, 14, 15, 16, 17, 18, 19, 20, 21, 22, 23, 24, 25, 26, 27, 28, 29, 30, 31, 32, 33, 34, 35, 36, 37, 38, 39, 40, 41, 42, 43, 44, 45, 46, 47, 48, 49, 50, 51, 52, 53, 54, 55, 56, 57, 58, 59, 60, 61, 62, 63, 64, 65, 66, 67, 68, 69, 70, 71, 72, 73, 74, 75, 76, 77, 78, 79, 80, 81, 82, 83, 84, 85, 86, 87, 88, 89, 90, 91, 92, 93, 94, 95, 96, 97, 98, 99, 100, 101, 102, 103, 104, 105, 106, 107, 259, 260, 261, 262, 263, 264, 265, 266, 267, 268, 269, 270, 271, 272, 273, 274, 275, 276, 277] (by decide +kernel) (by decide +kernel)
set_option maxRecDepth 20000 in
theorem gL_isEngraved_X6_reason : GoodIn wsL_isEngraved (wsV RL 36 RX6 yX6_reason wsX6_reason) := goodIn_app (goodIn_of _ (by decide +kernel)) ggL_isEngraved_X6_reason
set_option maxRecDepth 20000 in
theorem ggL_isEngraved_X6_plate : GoodIn wsL_isEngraved wsX6_plate := goodIn_r _ [111, 19, 20, 112, 22, 6, 7, 4, 8, 9, 10, 11, 12, 13, 14, 113, 95, 96, 26, 97, 32, 103, 104, 105, 106, 114, 115, 116, 117, 118, 83, 84, 85, 119, 120, 121, 122, 123, 124, 92, 125, 37, 38, 39, 40, 41, 42, 43, 44, 45, 46, 47, 48, 49, 50, 51, 52, 53, 54, 55, 56, 57, 58, 59, 29, 30, 31, 60, 61, 62, 63, 64, 65, 66, 67, 68, 69, 70, 71, 72, 73, 74, 75, 76, 77, 78, 79, 80, 81, 82, 86, 87, 88, 89, 90, 91, 93, 94, 98, 99, 100, 101, 102, 24, 25, 27, 28, 33, 34, 35, 36, 259, 260, 261, 262, 263, 264, 265, 266, 267, 268, 269, 270, 271, 272, 273, 274, 275, 276, 277] (by decide +kernel) (by decide +kernel)
set_option maxRecDepth 20000 in
theorem gL_isEngraved_X6_plate : GoodIn wsL_isEngraved (wsV RL 30 RX6 yX6_plate wsX6_plate) := goodIn_app (goodIn_of _ (by decide +kernel)) ggL_isEngraved_X6_plate
set_option maxRecDepth 20000 in
theorem ggL_isEngraved_X6_count : GoodIn wsL_isEngraved wsX6_count := goodIn_r _ [129, 19, 130, 131, 132, 133, 134, 135, 26, 136, 137, 138, 139, 140, 32, 141, 142, 143, 144, 145, 146, 147, 4, 148, 20, 21, 37, 38, 39, 40, 41, 42, 43, 44, 45, 46, 47, 48, 49, 50, 51, 52, 53, 54, 55, 56, 57, 58, 59, 29, 30, 31, 60, 61, 62, 63, 64, 65, 66, 67, 68, 69, 70, 71, 72, 73, 74, 75, 76, 77, 78, 79, 80, 81, 82, 83, 84, 85, 86, 87, 88, 89, 90, 91, 92, 93, 94, 95, 96, 97, 98, 99, 100, 101, 102, 24, 25, 27, 28, 33, 34, 35, 36, 149, 150, 151, 152, 153, 154, 155, 156, 157, 158, 159, 160, 107, 161, 162, 163, 164, 165, 166, 259, 260, 261, 262, 263, 264, 265, 266, 267, 278, 279, 280, 272, 273, 268, 269, 270, 271, 274, 275, 276, 277, 281, 282] (by decide +kernel) (by decide +kernel)
set_option maxRecDepth 20000 in
theorem gL_isEngraved_X6_count : GoodIn wsL_isEngraved (wsV RL 40 RX6 yX6_count wsX6_count) := goodIn_app (goodIn_of _ (by decide +kernel)) ggL_isEngraved_X6_count
set_option maxRecDepth 20000 in
theorem ggL_isEngraved_X6_petal : GoodIn wsL_isEngraved wsX6_petal := goodIn_r _ [170, 19, 171, 172, 4, 173, 6, 7, 8, 9, 10, 11, 174, 175, 176, 177, 178, 179, 12, 13, 14, 180, 64, 65, 181, 83, 84, 26, 85, 32, 259, 260, 261, 262, 263, 264, 265, 266, 267, 272, 273] (by decide +kernel) (by decide +kernel)
set_option maxRecDepth 20000 in
theorem gL_isEngraved_X6_petal : GoodIn wsL_isEngraved (wsV RL 33 RX6 yX6_petal wsX6_petal) := goodIn_app (goodIn_of _ (by decide +kernel)) ggL_isEngraved_X6_petal
set_option maxRecDepth 20000 in
theorem ggL_isEngraved_X6_rose : GoodIn wsL_isEngraved wsX6_rose := goodIn_r _ [185, 19, 6, 7, 4, 8, 9, 10, 11, 12, 13, 14, 23, 24, 25, 26, 27, 28, 29, 30, 31, 32, 33, 34, 35, 36, 186, 187, 188, 99, 100, 101, 102, 189, 190, 191, 192, 193, 194, 195, 196, 197, 198, 199, 200, 201, 202, 203, 204, 205, 206, 207, 208, 209, 210, 211, 212, 67, 68, 69, 70, 71, 72, 73, 74, 75, 76, 77, 213, 214, 215, 216, 217, 218, 219, 220, 259, 260, 261, 262, 263, 264, 265, 266, 267, 272, 273] (by decide +kernel) (by decide +kernel)
set_option maxRecDepth 20000 in
theorem gL_isEngraved_X6_rose : GoodIn wsL_isEngraved (wsV RL 8 RX6 yX6_rose wsX6_rose) := goodIn_app (goodIn_of _ (by decide +kernel)) ggL_isEngraved_X6_rose
set_option maxRecDepth 20000 in
theorem ggL_isEngraved_X6_share : GoodIn wsL_isEngraved wsX6_share := goodIn_r _ [224, 225, 19, 226, 171, 172, 4, 173, 6, 7, 8, 9, 10, 11, 174, 175, 176, 177, 178, 179, 12, 13, 14, 227, 48, 49, 50, 51, 52, 53, 54, 55, 56, 57, 58, 59, 29, 30, 26, 31, 32, 60, 61, 62, 63, 64, 65, 66, 67, 68, 69, 70, 71, 72, 73, 74, 75, 76, 77, 78, 79, 80, 81, 180, 259, 260, 261, 262, 263, 264, 265, 266, 267, 274, 275, 276, 277, 272, 273] (by decide +kernel) (by decide +kernel)
set_option maxRecDepth 20000 in
theorem gL_isEngraved_X6_share : GoodIn wsL_isEngraved (wsV RL 18 RX6 yX6_share wsX6_share) := goodIn_app (goodIn_of _ (by decide +kernel)) ggL_isEngraved_X6_share
set_option maxRecDepth 20000 in
theorem ggL_isEngraved_X6_engrave : GoodIn wsL_isEngraved wsX6_engrave := goodIn_r _ [231, 130, 19, 20, 232, 22, 21, 6, 7, 4, 8, 9, 10, 11, 12, 13, 14, 15, 16, 17, 18, 23, 24, 25, 26, 27, 28, 29, 30, 31, 32, 33, 34, 35, 36, 37, 38, 39, 40, 41, 42, 43, 44, 45, 46, 47, 48, 49, 50, 51, 52, 53, 54, 55, 56, 57, 58, 59, 60, 61, 62, 63, 64, 65, 66, 67, 68, 69, 70, 71, 72, 73, 74, 75, 76, 77, 78, 79, 80, 81, 82, 83, 84, 85, 86, 87, 88, 89, 90, 91, 92, 93, 94, 95, 96, 97, 98, 99, 100, 101, 102, 103, 104, 105, 106, 107, 233, 234, 235, 236, 237, 238, 239, 240, 241, 242, 243, 244, 245, 246, 247, 248, 249, 250, 251, 252, 253, 254, 255, 256, 257, 258, 259, 260, 261, 262, 263, 264, 265, 266, 267, 268, 269, 270, 271, 272, 273, 274, 275, 276, 277, 278, 279, 280] (by decide +kernel) (by decide +kernel)
set_option maxRecDepth 20000 in
theorem gL_isEngraved_X6_engrave : GoodIn wsL_isEngraved (wsV RL 48 RX6 yX6_engrave wsX6_engrave) := goodIn_app (goodIn_of _ (by decide +kernel)) ggL_isEngraved_X6_engrave
theorem dL_isEngraved_0 : decode cL_isEngraved 0 = .ok (.aload_n 0, 1) := by decide +kernel
theorem dL_isEngraved_1 : decode cL_isEngraved 1 = .ok (.iload_n 1, 1) := by decide +kernel
theorem dL_isEngraved_2 : decode cL_isEngraved 2 = .ok (.iload_n 2, 1) := by decide +kernel
theorem dL_isEngraved_3 : decode cL_isEngraved 3 = .ok (.invokevirtual 36, 3) := by decide +kernel
theorem dL_isEngraved_6 : decode cL_isEngraved 6 = .ok (.istore_n 3, 1) := by decide +kernel
theorem dL_isEngraved_7 : decode cL_isEngraved 7 = .ok (.aload_n 0, 1) := by decide +kernel
theorem dL_isEngraved_8 : decode cL_isEngraved 8 = .ok (.iload_n 1, 1) := by decide +kernel
theorem dL_isEngraved_9 : decode cL_isEngraved 9 = .ok (.iload_n 2, 1) := by decide +kernel
theorem dL_isEngraved_10 : decode cL_isEngraved 10 = .ok (.iconst 5, 1) := by decide +kernel
theorem dL_isEngraved_11 : decode cL_isEngraved 11 = .ok (.invokevirtual 30, 3) := by decide +kernel
theorem dL_isEngraved_14 : decode cL_isEngraved 14 = .ok (.istore 4, 2) := by decide +kernel
theorem dL_isEngraved_16 : decode cL_isEngraved 16 = .ok (.aload_n 0, 1) := by decide +kernel
theorem dL_isEngraved_17 : decode cL_isEngraved 17 = .ok (.iload_n 1, 1) := by decide +kernel
theorem dL_isEngraved_18 : decode cL_isEngraved 18 = .ok (.iload_n 2, 1) := by decide +kernel
theorem dL_isEngraved_19 : decode cL_isEngraved 19 = .ok (.iconst 1, 1) := by decide +kernel
theorem dL_isEngraved_20 : decode cL_isEngraved 20 = .ok (.invokevirtual 30, 3) := by decide +kernel
theorem dL_isEngraved_23 : decode cL_isEngraved 23 = .ok (.istore 5, 2) := by decide +kernel
theorem dL_isEngraved_25 : decode cL_isEngraved 25 = .ok (.aload_n 0, 1) := by decide +kernel
theorem dL_isEngraved_26 : decode cL_isEngraved 26 = .ok (.iconst 4, 1) := by decide +kernel
theorem dL_isEngraved_27 : decode cL_isEngraved 27 = .ok (.invokevirtual 40, 3) := by decide +kernel
theorem dL_isEngraved_30 : decode cL_isEngraved 30 = .ok (.istore 6, 2) := by decide +kernel
theorem dL_isEngraved_32 : decode cL_isEngraved 32 = .ok (.iconst 0, 1) := by decide +kernel
theorem dL_isEngraved_33 : decode cL_isEngraved 33 = .ok (.istore 7, 2) := by decide +kernel
theorem dL_isEngraved_35 : decode cL_isEngraved 35 = .ok (.iconst 0, 1) := by decide +kernel
theorem dL_isEngraved_36 : decode cL_isEngraved 36 = .ok (.istore 8, 2) := by decide +kernel
theorem dL_isEngraved_38 : decode cL_isEngraved 38 = .ok (.iload 8, 2) := by decide +kernel
theorem dL_isEngraved_40 : decode cL_isEngraved 40 = .ok (.bipush 48, 2) := by decide +kernel
theorem dL_isEngraved_42 : decode cL_isEngraved 42 = .ok (.if_icmp .gt 92, 3) := by decide +kernel
theorem dL_isEngraved_45 : decode cL_isEngraved 45 = .ok (.iload 8, 2) := by decide +kernel
theorem dL_isEngraved_47 : decode cL_isEngraved 47 = .ok (.bipush 48, 2) := by decide +kernel
theorem dL_isEngraved_49 : decode cL_isEngraved 49 = .ok (.if_icmp .ne 13, 3) := by decide +kernel
theorem dL_isEngraved_52 : decode cL_isEngraved 52 = .ok (.aload_n 0, 1) := by decide +kernel
theorem dL_isEngraved_53 : decode cL_isEngraved 53 = .ok (.iload_n 1, 1) := by decide +kernel
theorem dL_isEngraved_54 : decode cL_isEngraved 54 = .ok (.iload_n 2, 1) := by decide +kernel
theorem dL_isEngraved_55 : decode cL_isEngraved 55 = .ok (.iconst 0, 1) := by decide +kernel
theorem dL_isEngraved_56 : decode cL_isEngraved 56 = .ok (.invokevirtual 30, 3) := by decide +kernel
theorem dL_isEngraved_59 : decode cL_isEngraved 59 = .ok (.goto 17, 3) := by decide +kernel
theorem dL_isEngraved_62 : decode cL_isEngraved 62 = .ok (.aload_n 0, 1) := by decide +kernel
theorem dL_isEngraved_63 : decode cL_isEngraved 63 = .ok (.iload_n 1, 1) := by decide +kernel
theorem dL_isEngraved_64 : decode cL_isEngraved 64 = .ok (.iload_n 2, 1) := by decide +kernel
theorem dL_isEngraved_65 : decode cL_isEngraved 65 = .ok (.iload 8, 2) := by decide +kernel
theorem dL_isEngraved_67 : decode cL_isEngraved 67 = .ok (.iconst 3, 1) := by decide +kernel
theorem dL_isEngraved_68 : decode cL_isEngraved 68 = .ok (.idiv, 1) := by decide +kernel
theorem dL_isEngraved_69 : decode cL_isEngraved 69 = .ok (.iload 8, 2) := by decide +kernel
theorem dL_isEngraved_71 : decode cL_isEngraved 71 = .ok (.iconst 3, 1) := by decide +kernel
theorem dL_isEngraved_72 : decode cL_isEngraved 72 = .ok (.irem, 1) := by decide +kernel
theorem dL_isEngraved_73 : decode cL_isEngraved 73 = .ok (.invokevirtual 33, 3) := by decide +kernel
theorem dL_isEngraved_76 : decode cL_isEngraved 76 = .ok (.istore 9, 2) := by decide +kernel
theorem dL_isEngraved_78 : decode cL_isEngraved 78 = .ok (.iload 8, 2) := by decide +kernel
theorem dL_isEngraved_80 : decode cL_isEngraved 80 = .ok (.bipush 48, 2) := by decide +kernel
theorem dL_isEngraved_82 : decode cL_isEngraved 82 = .ok (.if_icmp .ne 13, 3) := by decide +kernel
theorem dL_isEngraved_85 : decode cL_isEngraved 85 = .ok (.aload_n 0, 1) := by decide +kernel
theorem dL_isEngraved_86 : decode cL_isEngraved 86 = .ok (.iload_n 1, 1) := by decide +kernel
theorem dL_isEngraved_87 : decode cL_isEngraved 87 = .ok (.iload_n 2, 1) := by decide +kernel
theorem dL_isEngraved_88 : decode cL_isEngraved 88 = .ok (.iconst 3, 1) := by decide +kernel
theorem dL_isEngraved_89 : decode cL_isEngraved 89 = .ok (.invokevirtual 8, 3) := by decide +kernel
theorem dL_isEngraved_92 : decode cL_isEngraved 92 = .ok (.goto 17, 3) := by decide +kernel
theorem dL_isEngraved_95 : decode cL_isEngraved 95 = .ok (.aload_n 0, 1) := by decide +kernel
theorem dL_isEngraved_96 : decode cL_isEngraved 96 = .ok (.iload_n 1, 1) := by decide +kernel
theorem dL_isEngraved_97 : decode cL_isEngraved 97 = .ok (.iload_n 2, 1) := by decide +kernel
theorem dL_isEngraved_98 : decode cL_isEngraved 98 = .ok (.iload 8, 2) := by decide +kernel
theorem dL_isEngraved_100 : decode cL_isEngraved 100 = .ok (.iconst 3, 1) := by decide +kernel
theorem dL_isEngraved_101 : decode cL_isEngraved 101 = .ok (.idiv, 1) := by decide +kernel
theorem dL_isEngraved_102 : decode cL_isEngraved 102 = .ok (.iload 8, 2) := by decide +kernel
theorem dL_isEngraved_104 : decode cL_isEngraved 104 = .ok (.iconst 3, 1) := by decide +kernel
theorem dL_isEngraved_105 : decode cL_isEngraved 105 = .ok (.irem, 1) := by decide +kernel
theorem dL_isEngraved_106 : decode cL_isEngraved 106 = .ok (.invokevirtual 18, 3) := by decide +kernel
theorem dL_isEngraved_109 : decode cL_isEngraved 109 = .ok (.istore 10, 2) := by decide +kernel
theorem dL_isEngraved_111 : decode cL_isEngraved 111 = .ok (.iload 7, 2) := by decide +kernel
theorem dL_isEngraved_113 : decode cL_isEngraved 113 = .ok (.iload 9, 2) := by decide +kernel
theorem dL_isEngraved_115 : decode cL_isEngraved 115 = .ok (.iload 10, 2) := by decide +kernel
theorem dL_isEngraved_117 : decode cL_isEngraved 117 = .ok (.if_icmp .ne 7, 3) := by decide +kernel
theorem dL_isEngraved_120 : decode cL_isEngraved 120 = .ok (.iconst 0, 1) := by decide +kernel
theorem dL_isEngraved_121 : decode cL_isEngraved 121 = .ok (.goto 4, 3) := by decide +kernel
theorem dL_isEngraved_124 : decode cL_isEngraved 124 = .ok (.iconst 1, 1) := by decide +kernel
theorem dL_isEngraved_125 : decode cL_isEngraved 125 = .ok (.iadd, 1) := by decide +kernel
theorem dL_isEngraved_126 : decode cL_isEngraved 126 = .ok (.istore 7, 2) := by decide +kernel
theorem dL_isEngraved_128 : decode cL_isEngraved 128 = .ok (.iinc 8 1, 3) := by decide +kernel
theorem dL_isEngraved_131 : decode cL_isEngraved 131 = .ok (.goto (-93), 3) := by decide +kernel
theorem dL_isEngraved_134 : decode cL_isEngraved 134 = .ok (.aload_n 0, 1) := by decide +kernel
theorem dL_isEngraved_135 : decode cL_isEngraved 135 = .ok (.iload_n 1, 1) := by decide +kernel
theorem dL_isEngraved_136 : decode cL_isEngraved 136 = .ok (.iload_n 2, 1) := by decide +kernel
theorem dL_isEngraved_137 : decode cL_isEngraved 137 = .ok (.invokevirtual 48, 3) := by decide +kernel
theorem dL_isEngraved_140 : decode cL_isEngraved 140 = .ok (.istore 8, 2) := by decide +kernel
theorem dL_isEngraved_142 : decode cL_isEngraved 142 = .ok (.iload_n 3, 1) := by decide +kernel
theorem dL_isEngraved_143 : decode cL_isEngraved 143 = .ok (.ifCond .le 48, 3) := by decide +kernel
theorem dL_isEngraved_146 : decode cL_isEngraved 146 = .ok (.iload 8, 2) := by decide +kernel
theorem dL_isEngraved_148 : decode cL_isEngraved 148 = .ok (.iload_n 3, 1) := by decide +kernel
theorem dL_isEngraved_149 : decode cL_isEngraved 149 = .ok (.iconst 2, 1) := by decide +kernel
theorem dL_isEngraved_150 : decode cL_isEngraved 150 = .ok (.if_icmp .ne 8, 3) := by decide +kernel
theorem dL_isEngraved_153 : decode cL_isEngraved 153 = .ok (.bipush (-5), 2) := by decide +kernel
theorem dL_isEngraved_155 : decode cL_isEngraved 155 = .ok (.goto 5, 3) := by decide +kernel
theorem dL_isEngraved_158 : decode cL_isEngraved 158 = .ok (.bipush (-4), 2) := by decide +kernel
theorem dL_isEngraved_160 : decode cL_isEngraved 160 = .ok (.if_icmp .ne 29, 3) := by decide +kernel
theorem dL_isEngraved_163 : decode cL_isEngraved 163 = .ok (.aload_n 0, 1) := by decide +kernel
theorem dL_isEngraved_164 : decode cL_isEngraved 164 = .ok (.iconst 4, 1) := by decide +kernel
theorem dL_isEngraved_165 : decode cL_isEngraved 165 = .ok (.invokevirtual 40, 3) := by decide +kernel
theorem dL_isEngraved_168 : decode cL_isEngraved 168 = .ok (.iload 6, 2) := by decide +kernel
theorem dL_isEngraved_170 : decode cL_isEngraved 170 = .ok (.if_icmp .ne 19, 3) := by decide +kernel
theorem dL_isEngraved_173 : decode cL_isEngraved 173 = .ok (.aload_n 0, 1) := by decide +kernel
theorem dL_isEngraved_174 : decode cL_isEngraved 174 = .ok (.iload_n 1, 1) := by decide +kernel
theorem dL_isEngraved_175 : decode cL_isEngraved 175 = .ok (.iload_n 2, 1) := by decide +kernel
theorem dL_isEngraved_176 : decode cL_isEngraved 176 = .ok (.iconst 1, 1) := by decide +kernel
theorem dL_isEngraved_177 : decode cL_isEngraved 177 = .ok (.invokevirtual 30, 3) := by decide +kernel
theorem dL_isEngraved_180 : decode cL_isEngraved 180 = .ok (.iload 5, 2) := by decide +kernel
theorem dL_isEngraved_182 : decode cL_isEngraved 182 = .ok (.if_icmp .ne 7, 3) := by decide +kernel
theorem dL_isEngraved_185 : decode cL_isEngraved 185 = .ok (.iconst 1, 1) := by decide +kernel
theorem dL_isEngraved_186 : decode cL_isEngraved 186 = .ok (.goto 4, 3) := by decide +kernel
theorem dL_isEngraved_189 : decode cL_isEngraved 189 = .ok (.iconst 0, 1) := by decide +kernel
theorem dL_isEngraved_190 : decode cL_isEngraved 190 = .ok (.ireturn, 1) := by decide +kernel
theorem dL_isEngraved_191 : decode cL_isEngraved 191 = .ok (.iload 8, 2) := by decide +kernel
theorem dL_isEngraved_193 : decode cL_isEngraved 193 = .ok (.iload 7, 2) := by decide +kernel
theorem dL_isEngraved_195 : decode cL_isEngraved 195 = .ok (.if_icmp .ne 54, 3) := by decide +kernel
theorem dL_isEngraved_198 : decode cL_isEngraved 198 = .ok (.aload_n 0, 1) := by decide +kernel
theorem dL_isEngraved_199 : decode cL_isEngraved 199 = .ok (.iload_n 1, 1) := by decide +kernel
theorem dL_isEngraved_200 : decode cL_isEngraved 200 = .ok (.iload_n 2, 1) := by decide +kernel
theorem dL_isEngraved_201 : decode cL_isEngraved 201 = .ok (.iconst 4, 1) := by decide +kernel
theorem dL_isEngraved_202 : decode cL_isEngraved 202 = .ok (.invokevirtual 30, 3) := by decide +kernel
theorem dL_isEngraved_205 : decode cL_isEngraved 205 = .ok (.ifCond .ne 44, 3) := by decide +kernel
theorem dL_isEngraved_208 : decode cL_isEngraved 208 = .ok (.aload_n 0, 1) := by decide +kernel
theorem dL_isEngraved_209 : decode cL_isEngraved 209 = .ok (.iload_n 1, 1) := by decide +kernel
theorem dL_isEngraved_210 : decode cL_isEngraved 210 = .ok (.iload_n 2, 1) := by decide +kernel
theorem dL_isEngraved_211 : decode cL_isEngraved 211 = .ok (.iconst 1, 1) := by decide +kernel
theorem dL_isEngraved_212 : decode cL_isEngraved 212 = .ok (.invokevirtual 30, 3) := by decide +kernel
theorem dL_isEngraved_215 : decode cL_isEngraved 215 = .ok (.iload 5, 2) := by decide +kernel
theorem dL_isEngraved_217 : decode cL_isEngraved 217 = .ok (.iload 4, 2) := by decide +kernel
theorem dL_isEngraved_219 : decode cL_isEngraved 219 = .ok (.iadd, 1) := by decide +kernel
theorem dL_isEngraved_220 : decode cL_isEngraved 220 = .ok (.if_icmp .ne 29, 3) := by decide +kernel
theorem dL_isEngraved_223 : decode cL_isEngraved 223 = .ok (.aload_n 0, 1) := by decide +kernel
theorem dL_isEngraved_224 : decode cL_isEngraved 224 = .ok (.iconst 4, 1) := by decide +kernel
theorem dL_isEngraved_225 : decode cL_isEngraved 225 = .ok (.invokevirtual 40, 3) := by decide +kernel
theorem dL_isEngraved_228 : decode cL_isEngraved 228 = .ok (.iload 6, 2) := by decide +kernel
theorem dL_isEngraved_230 : decode cL_isEngraved 230 = .ok (.iconst 1, 1) := by decide +kernel
theorem dL_isEngraved_231 : decode cL_isEngraved 231 = .ok (.iadd, 1) := by decide +kernel
theorem dL_isEngraved_232 : decode cL_isEngraved 232 = .ok (.if_icmp .ne 17, 3) := by decide +kernel
theorem dL_isEngraved_235 : decode cL_isEngraved 235 = .ok (.aload_n 0, 1) := by decide +kernel
theorem dL_isEngraved_236 : decode cL_isEngraved 236 = .ok (.iload_n 1, 1) := by decide +kernel
theorem dL_isEngraved_237 : decode cL_isEngraved 237 = .ok (.iload_n 2, 1) := by decide +kernel
theorem dL_isEngraved_238 : decode cL_isEngraved 238 = .ok (.invokevirtual 36, 3) := by decide +kernel
theorem dL_isEngraved_241 : decode cL_isEngraved 241 = .ok (.iconst 2, 1) := by decide +kernel
theorem dL_isEngraved_242 : decode cL_isEngraved 242 = .ok (.if_icmp .ne 7, 3) := by decide +kernel
theorem dL_isEngraved_245 : decode cL_isEngraved 245 = .ok (.iconst 1, 1) := by decide +kernel
theorem dL_isEngraved_246 : decode cL_isEngraved 246 = .ok (.goto 4, 3) := by decide +kernel
theorem dL_isEngraved_249 : decode cL_isEngraved 249 = .ok (.iconst 0, 1) := by decide +kernel
theorem dL_isEngraved_250 : decode cL_isEngraved 250 = .ok (.ireturn, 1) := by decide +kernel
set_option maxRecDepth 20000 in
theorem ggL_isTurned_X6_rose : GoodIn wsL_isTurned wsX6_rose := goodIn_r _ [5, 6, 7, 8, 4, 9, 10, 11, 12, 13, 14, 15, 16, 17, 18, 19, 20, 21, 22, 23, 24, 25, 26, 27, 28, 29, 30, 31, 32, 33, 34, 35, 36, 37, 38, 39, 40, 41, 42, 43, 44, 45, 46, 47, 48, 49, 50, 51, 52, 53, 54, 55, 56, 57, 58, 59, 60, 61, 62, 63, 64, 65, 66, 67, 68, 69, 70, 71, 72, 73, 74, 75, 76, 77, 78, 79, 121, 122, 123, 124, 125, 126, 127, 128, 129, 130, 131] (by decide +kernel) (by decide +kernel)
set_option maxRecDepth 20000 in
theorem gL_isTurned_X6_rose : GoodIn wsL_isTurned (wsV RL 8 RX6 yX6_rose wsX6_rose) := goodIn_app (goodIn_of _ (by decide +kernel)) ggL_isTurned_X6_rose
set_option maxRecDepth 20000 in
theorem ggL_isTurned_X6_hours : GoodIn wsL_isTurned wsX6_hours := goodIn_r _ [83, 6, 7, 8, 4, 9, 10, 11, 12, 84, 85, 86, 13, 14, 15, 76, 77, 78, 19, 79, 68, 69, 70, 71, 25, 87, 88, 89, 90, 61, 62, 63, 64, 65, 66, 67, 121, 122, 123, 124, 125, 126, 127, 128, 129, 130, 131] (by decide +kernel) (by decide +kernel)
set_option maxRecDepth 20000 in
theorem gL_isTurned_X6_hours : GoodIn wsL_isTurned (wsV RL 14 RX6 yX6_hours wsX6_hours) := goodIn_app (goodIn_of _ (by decide +kernel)) ggL_isTurned_X6_hours
set_option maxRecDepth 20000 in
theorem ggL_isTurned_X6_turn : GoodIn wsL_isTurned wsX6_turn := goodIn_r _ [94, 6, 95, 7, 8, 4, 9, 10, 11, 12, 13, 14, 15, 30, 22, 23, 19, 24, 25, 96, 97, 98, 99, 100, 101, 102, 103, 104, 105, 106, 107, 108, 109, 110, 111, 112, 113, 114, 115, 116, 117, 118, 119, 120, 121, 122, 123, 124, 125, 126, 127, 128, 129, 130, 131, 132, 133, 134] (by decide +kernel) (by decide +kernel)
set_option maxRecDepth 20000 in
theorem gL_isTurned_X6_turn : GoodIn wsL_isTurned (wsV RL 51 RX6 yX6_turn wsX6_turn) := goodIn_app (goodIn_of _ (by decide +kernel)) ggL_isTurned_X6_turn
theorem dL_isTurned_0 : decode cL_isTurned 0 = .ok (.aload_n 0, 1) := by decide +kernel
theorem dL_isTurned_1 : decode cL_isTurned 1 = .ok (.iload_n 1, 1) := by decide +kernel
theorem dL_isTurned_2 : decode cL_isTurned 2 = .ok (.iload_n 2, 1) := by decide +kernel
theorem dL_isTurned_3 : decode cL_isTurned 3 = .ok (.iconst 1, 1) := by decide +kernel
theorem dL_isTurned_4 : decode cL_isTurned 4 = .ok (.invokevirtual 8, 3) := by decide +kernel
theorem dL_isTurned_7 : decode cL_isTurned 7 = .ok (.istore 5, 2) := by decide +kernel
theorem dL_isTurned_9 : decode cL_isTurned 9 = .ok (.aload_n 0, 1) := by decide +kernel
theorem dL_isTurned_10 : decode cL_isTurned 10 = .ok (.iload_n 1, 1) := by decide +kernel
theorem dL_isTurned_11 : decode cL_isTurned 11 = .ok (.iload_n 2, 1) := by decide +kernel
theorem dL_isTurned_12 : decode cL_isTurned 12 = .ok (.iconst 5, 1) := by decide +kernel
theorem dL_isTurned_13 : decode cL_isTurned 13 = .ok (.invokevirtual 8, 3) := by decide +kernel
theorem dL_isTurned_16 : decode cL_isTurned 16 = .ok (.istore 6, 2) := by decide +kernel
theorem dL_isTurned_18 : decode cL_isTurned 18 = .ok (.iconst 0, 1) := by decide +kernel
theorem dL_isTurned_19 : decode cL_isTurned 19 = .ok (.istore 7, 2) := by decide +kernel
theorem dL_isTurned_21 : decode cL_isTurned 21 = .ok (.iload 7, 2) := by decide +kernel
theorem dL_isTurned_23 : decode cL_isTurned 23 = .ok (.bipush 48, 2) := by decide +kernel
theorem dL_isTurned_25 : decode cL_isTurned 25 = .ok (.if_icmp .ge 28, 3) := by decide +kernel
theorem dL_isTurned_28 : decode cL_isTurned 28 = .ok (.aload 4, 2) := by decide +kernel
theorem dL_isTurned_30 : decode cL_isTurned 30 = .ok (.iload 7, 2) := by decide +kernel
theorem dL_isTurned_32 : decode cL_isTurned 32 = .ok (.aload_n 0, 1) := by decide +kernel
theorem dL_isTurned_33 : decode cL_isTurned 33 = .ok (.iload_n 1, 1) := by decide +kernel
theorem dL_isTurned_34 : decode cL_isTurned 34 = .ok (.iload_n 2, 1) := by decide +kernel
theorem dL_isTurned_35 : decode cL_isTurned 35 = .ok (.iload 7, 2) := by decide +kernel
theorem dL_isTurned_37 : decode cL_isTurned 37 = .ok (.iconst 3, 1) := by decide +kernel
theorem dL_isTurned_38 : decode cL_isTurned 38 = .ok (.idiv, 1) := by decide +kernel
theorem dL_isTurned_39 : decode cL_isTurned 39 = .ok (.iload 7, 2) := by decide +kernel
theorem dL_isTurned_41 : decode cL_isTurned 41 = .ok (.iconst 3, 1) := by decide +kernel
theorem dL_isTurned_42 : decode cL_isTurned 42 = .ok (.irem, 1) := by decide +kernel
theorem dL_isTurned_43 : decode cL_isTurned 43 = .ok (.invokevirtual 14, 3) := by decide +kernel
theorem dL_isTurned_46 : decode cL_isTurned 46 = .ok (.iastore, 1) := by decide +kernel
theorem dL_isTurned_47 : decode cL_isTurned 47 = .ok (.iinc 7 1, 3) := by decide +kernel
theorem dL_isTurned_50 : decode cL_isTurned 50 = .ok (.goto (-29), 3) := by decide +kernel
theorem dL_isTurned_53 : decode cL_isTurned 53 = .ok (.aload_n 0, 1) := by decide +kernel
theorem dL_isTurned_54 : decode cL_isTurned 54 = .ok (.iload_n 1, 1) := by decide +kernel
theorem dL_isTurned_55 : decode cL_isTurned 55 = .ok (.iload_n 2, 1) := by decide +kernel
theorem dL_isTurned_56 : decode cL_isTurned 56 = .ok (.iload_n 3, 1) := by decide +kernel
theorem dL_isTurned_57 : decode cL_isTurned 57 = .ok (.invokevirtual 51, 3) := by decide +kernel
theorem dL_isTurned_60 : decode cL_isTurned 60 = .ok (.istore 7, 2) := by decide +kernel
theorem dL_isTurned_62 : decode cL_isTurned 62 = .ok (.iload 5, 2) := by decide +kernel
theorem dL_isTurned_64 : decode cL_isTurned 64 = .ok (.ifCond .ne 16, 3) := by decide +kernel
theorem dL_isTurned_67 : decode cL_isTurned 67 = .ok (.iload 7, 2) := by decide +kernel
theorem dL_isTurned_69 : decode cL_isTurned 69 = .ok (.bipush (-5), 2) := by decide +kernel
theorem dL_isTurned_71 : decode cL_isTurned 71 = .ok (.if_icmp .ne 7, 3) := by decide +kernel
theorem dL_isTurned_74 : decode cL_isTurned 74 = .ok (.iconst 1, 1) := by decide +kernel
theorem dL_isTurned_75 : decode cL_isTurned 75 = .ok (.goto 4, 3) := by decide +kernel
theorem dL_isTurned_78 : decode cL_isTurned 78 = .ok (.iconst 0, 1) := by decide +kernel
theorem dL_isTurned_79 : decode cL_isTurned 79 = .ok (.ireturn, 1) := by decide +kernel
theorem dL_isTurned_80 : decode cL_isTurned 80 = .ok (.iconst 0, 1) := by decide +kernel
theorem dL_isTurned_81 : decode cL_isTurned 81 = .ok (.istore 8, 2) := by decide +kernel
theorem dL_isTurned_83 : decode cL_isTurned 83 = .ok (.iload 8, 2) := by decide +kernel
theorem dL_isTurned_85 : decode cL_isTurned 85 = .ok (.bipush 48, 2) := by decide +kernel
theorem dL_isTurned_87 : decode cL_isTurned 87 = .ok (.if_icmp .ge 38, 3) := by decide +kernel
theorem dL_isTurned_90 : decode cL_isTurned 90 = .ok (.aload_n 0, 1) := by decide +kernel
theorem dL_isTurned_91 : decode cL_isTurned 91 = .ok (.iload_n 1, 1) := by decide +kernel
theorem dL_isTurned_92 : decode cL_isTurned 92 = .ok (.iload_n 2, 1) := by decide +kernel
theorem dL_isTurned_93 : decode cL_isTurned 93 = .ok (.iload 8, 2) := by decide +kernel
theorem dL_isTurned_95 : decode cL_isTurned 95 = .ok (.iconst 3, 1) := by decide +kernel
theorem dL_isTurned_96 : decode cL_isTurned 96 = .ok (.idiv, 1) := by decide +kernel
theorem dL_isTurned_97 : decode cL_isTurned 97 = .ok (.iload_n 3, 1) := by decide +kernel
theorem dL_isTurned_98 : decode cL_isTurned 98 = .ok (.iadd, 1) := by decide +kernel
theorem dL_isTurned_99 : decode cL_isTurned 99 = .ok (.bipush 16, 2) := by decide +kernel
theorem dL_isTurned_101 : decode cL_isTurned 101 = .ok (.irem, 1) := by decide +kernel
theorem dL_isTurned_102 : decode cL_isTurned 102 = .ok (.iload 8, 2) := by decide +kernel
theorem dL_isTurned_104 : decode cL_isTurned 104 = .ok (.iconst 3, 1) := by decide +kernel
theorem dL_isTurned_105 : decode cL_isTurned 105 = .ok (.irem, 1) := by decide +kernel
theorem dL_isTurned_106 : decode cL_isTurned 106 = .ok (.invokevirtual 14, 3) := by decide +kernel
theorem dL_isTurned_109 : decode cL_isTurned 109 = .ok (.aload 4, 2) := by decide +kernel
theorem dL_isTurned_111 : decode cL_isTurned 111 = .ok (.iload 8, 2) := by decide +kernel
theorem dL_isTurned_113 : decode cL_isTurned 113 = .ok (.iaload, 1) := by decide +kernel
theorem dL_isTurned_114 : decode cL_isTurned 114 = .ok (.if_icmp .eq 5, 3) := by decide +kernel
theorem dL_isTurned_117 : decode cL_isTurned 117 = .ok (.iconst 0, 1) := by decide +kernel
theorem dL_isTurned_118 : decode cL_isTurned 118 = .ok (.ireturn, 1) := by decide +kernel
theorem dL_isTurned_119 : decode cL_isTurned 119 = .ok (.iinc 8 1, 3) := by decide +kernel
theorem dL_isTurned_122 : decode cL_isTurned 122 = .ok (.goto (-39), 3) := by decide +kernel
theorem dL_isTurned_125 : decode cL_isTurned 125 = .ok (.iload 7, 2) := by decide +kernel
theorem dL_isTurned_127 : decode cL_isTurned 127 = .ok (.iload 5, 2) := by decide +kernel
theorem dL_isTurned_129 : decode cL_isTurned 129 = .ok (.if_icmp .ne 31, 3) := by decide +kernel
theorem dL_isTurned_132 : decode cL_isTurned 132 = .ok (.aload_n 0, 1) := by decide +kernel
theorem dL_isTurned_133 : decode cL_isTurned 133 = .ok (.iload_n 1, 1) := by decide +kernel
theorem dL_isTurned_134 : decode cL_isTurned 134 = .ok (.iload_n 2, 1) := by decide +kernel
theorem dL_isTurned_135 : decode cL_isTurned 135 = .ok (.iconst 1, 1) := by decide +kernel
theorem dL_isTurned_136 : decode cL_isTurned 136 = .ok (.invokevirtual 8, 3) := by decide +kernel
theorem dL_isTurned_139 : decode cL_isTurned 139 = .ok (.iload 5, 2) := by decide +kernel
theorem dL_isTurned_141 : decode cL_isTurned 141 = .ok (.if_icmp .ne 19, 3) := by decide +kernel
theorem dL_isTurned_144 : decode cL_isTurned 144 = .ok (.aload_n 0, 1) := by decide +kernel
theorem dL_isTurned_145 : decode cL_isTurned 145 = .ok (.iload_n 1, 1) := by decide +kernel
theorem dL_isTurned_146 : decode cL_isTurned 146 = .ok (.iload_n 2, 1) := by decide +kernel
theorem dL_isTurned_147 : decode cL_isTurned 147 = .ok (.iconst 5, 1) := by decide +kernel
theorem dL_isTurned_148 : decode cL_isTurned 148 = .ok (.invokevirtual 8, 3) := by decide +kernel
theorem dL_isTurned_151 : decode cL_isTurned 151 = .ok (.iload 6, 2) := by decide +kernel
theorem dL_isTurned_153 : decode cL_isTurned 153 = .ok (.if_icmp .ne 7, 3) := by decide +kernel
theorem dL_isTurned_156 : decode cL_isTurned 156 = .ok (.iconst 1, 1) := by decide +kernel
theorem dL_isTurned_157 : decode cL_isTurned 157 = .ok (.goto 4, 3) := by decide +kernel
theorem dL_isTurned_160 : decode cL_isTurned 160 = .ok (.iconst 0, 1) := by decide +kernel
theorem dL_isTurned_161 : decode cL_isTurned 161 = .ok (.ireturn, 1) := by decide +kernel
set_option maxRecDepth 20000 in
theorem ggL_isUnlike_X6_share : GoodIn wsL_isUnlike wsX6_share := goodIn_r _ [5, 6, 7, 8, 9, 10, 4, 11, 12, 13, 14, 15, 16, 17, 18, 19, 20, 21, 22, 23, 24, 25, 26, 27, 28, 29, 30, 31, 32, 33, 34, 35, 36, 37, 38, 39, 40, 41, 42, 43, 44, 45, 46, 47, 48, 49, 50, 51, 52, 53, 54, 55, 56, 57, 58, 59, 60, 61, 62, 63, 64, 65, 66, 67, 133, 134, 135, 136, 137, 138, 139, 140, 141, 142, 143, 144, 145, 146, 147] (by decide +kernel) (by decide +kernel)
set_option maxRecDepth 20000 in
theorem gL_isUnlike_X6_share : GoodIn wsL_isUnlike (wsV RL 18 RX6 yX6_share wsX6_share) := goodIn_app (goodIn_of _ (by decide +kernel)) ggL_isUnlike_X6_share
set_option maxRecDepth 20000 in
theorem ggL_isUnlike_X6_rose : GoodIn wsL_isUnlike wsX6_rose := goodIn_r _ [71, 7, 12, 13, 4, 14, 15, 16, 17, 24, 25, 26, 72, 73, 74, 42, 75, 76, 40, 41, 43, 44, 77, 78, 79, 80, 81, 82, 83, 84, 85, 86, 87, 88, 89, 90, 91, 92, 93, 94, 95, 96, 97, 98, 99, 100, 101, 102, 103, 104, 105, 106, 107, 108, 109, 110, 111, 52, 53, 54, 55, 56, 57, 58, 59, 60, 61, 62, 112, 113, 114, 115, 116, 117, 118, 119, 133, 134, 135, 136, 137, 138, 139, 140, 141, 146, 147] (by decide +kernel) (by decide +kernel)
set_option maxRecDepth 20000 in
theorem gL_isUnlike_X6_rose : GoodIn wsL_isUnlike (wsV RL 8 RX6 yX6_rose wsX6_rose) := goodIn_app (goodIn_of _ (by decide +kernel)) ggL_isUnlike_X6_rose
set_option maxRecDepth 20000 in
theorem ggL_isUnlike_X6_unlike : GoodIn wsL_isUnlike wsX6_unlike := goodIn_r _ [123, 6, 7, 124, 8, 125, 126, 127, 128, 12, 13, 4, 14, 15, 16, 17, 24, 25, 26, 27, 28, 29, 30, 31, 32, 33, 34, 35, 36, 37, 38, 39, 40, 41, 42, 43, 44, 45, 46, 47, 48, 49, 50, 51, 52, 53, 54, 55, 56, 57, 58, 59, 60, 61, 62, 63, 64, 65, 66, 133, 134, 135, 136, 137, 138, 139, 140, 141, 142, 143, 144, 145, 146, 147] (by decide +kernel) (by decide +kernel)
set_option maxRecDepth 20000 in
theorem gL_isUnlike_X6_unlike : GoodIn wsL_isUnlike (wsV RL 54 RX6 yX6_unlike wsX6_unlike) := goodIn_app (goodIn_of _ (by decide +kernel)) ggL_isUnlike_X6_unlike
set_option maxRecDepth 20000 in
theorem ggL_isUnlike_X6_seasonOf : GoodIn wsL_isUnlike wsX6_seasonOf := goodIn_r _ [132, 7, 15, 16, 4, 17, 21, 22, 23, 24, 25, 26, 107, 108, 109, 42, 110, 111, 52, 53, 54, 55, 56, 57, 58, 44, 59, 60, 61, 62, 133, 134, 135, 136, 137, 138, 139, 140, 141, 146, 147] (by decide +kernel) (by decide +kernel)
set_option maxRecDepth 20000 in
theorem gL_isUnlike_X6_seasonOf : GoodIn wsL_isUnlike (wsV RL 57 RX6 yX6_seasonOf wsX6_seasonOf) := goodIn_app (goodIn_of _ (by decide +kernel)) ggL_isUnlike_X6_seasonOf
theorem dL_isUnlike_0 : decode cL_isUnlike 0 = .ok (.iconst 0, 1) := by decide +kernel
theorem dL_isUnlike_1 : decode cL_isUnlike 1 = .ok (.istore 5, 2) := by decide +kernel
theorem dL_isUnlike_3 : decode cL_isUnlike 3 = .ok (.iconst 0, 1) := by decide +kernel
theorem dL_isUnlike_4 : decode cL_isUnlike 4 = .ok (.istore 6, 2) := by decide +kernel
theorem dL_isUnlike_6 : decode cL_isUnlike 6 = .ok (.iload 6, 2) := by decide +kernel
theorem dL_isUnlike_8 : decode cL_isUnlike 8 = .ok (.bipush 48, 2) := by decide +kernel
theorem dL_isUnlike_10 : decode cL_isUnlike 10 = .ok (.if_icmp .ge 58, 3) := by decide +kernel
theorem dL_isUnlike_13 : decode cL_isUnlike 13 = .ok (.aload_n 0, 1) := by decide +kernel
theorem dL_isUnlike_14 : decode cL_isUnlike 14 = .ok (.iload_n 1, 1) := by decide +kernel
theorem dL_isUnlike_15 : decode cL_isUnlike 15 = .ok (.iload_n 3, 1) := by decide +kernel
theorem dL_isUnlike_16 : decode cL_isUnlike 16 = .ok (.iload 6, 2) := by decide +kernel
theorem dL_isUnlike_18 : decode cL_isUnlike 18 = .ok (.iconst 3, 1) := by decide +kernel
theorem dL_isUnlike_19 : decode cL_isUnlike 19 = .ok (.idiv, 1) := by decide +kernel
theorem dL_isUnlike_20 : decode cL_isUnlike 20 = .ok (.iload 6, 2) := by decide +kernel
theorem dL_isUnlike_22 : decode cL_isUnlike 22 = .ok (.iconst 3, 1) := by decide +kernel
theorem dL_isUnlike_23 : decode cL_isUnlike 23 = .ok (.irem, 1) := by decide +kernel
theorem dL_isUnlike_24 : decode cL_isUnlike 24 = .ok (.invokevirtual 18, 3) := by decide +kernel
theorem dL_isUnlike_27 : decode cL_isUnlike 27 = .ok (.aload_n 0, 1) := by decide +kernel
theorem dL_isUnlike_28 : decode cL_isUnlike 28 = .ok (.iload_n 2, 1) := by decide +kernel
theorem dL_isUnlike_29 : decode cL_isUnlike 29 = .ok (.iload_n 3, 1) := by decide +kernel
theorem dL_isUnlike_30 : decode cL_isUnlike 30 = .ok (.iload 6, 2) := by decide +kernel
theorem dL_isUnlike_32 : decode cL_isUnlike 32 = .ok (.iconst 3, 1) := by decide +kernel
theorem dL_isUnlike_33 : decode cL_isUnlike 33 = .ok (.idiv, 1) := by decide +kernel
theorem dL_isUnlike_34 : decode cL_isUnlike 34 = .ok (.iload 6, 2) := by decide +kernel
theorem dL_isUnlike_36 : decode cL_isUnlike 36 = .ok (.iconst 3, 1) := by decide +kernel
theorem dL_isUnlike_37 : decode cL_isUnlike 37 = .ok (.irem, 1) := by decide +kernel
theorem dL_isUnlike_38 : decode cL_isUnlike 38 = .ok (.invokevirtual 18, 3) := by decide +kernel
theorem dL_isUnlike_41 : decode cL_isUnlike 41 = .ok (.isub, 1) := by decide +kernel
theorem dL_isUnlike_42 : decode cL_isUnlike 42 = .ok (.istore 7, 2) := by decide +kernel
theorem dL_isUnlike_44 : decode cL_isUnlike 44 = .ok (.iload 5, 2) := by decide +kernel
theorem dL_isUnlike_46 : decode cL_isUnlike 46 = .ok (.iload 7, 2) := by decide +kernel
theorem dL_isUnlike_48 : decode cL_isUnlike 48 = .ok (.ifCond .ge 9, 3) := by decide +kernel
theorem dL_isUnlike_51 : decode cL_isUnlike 51 = .ok (.iload 7, 2) := by decide +kernel
theorem dL_isUnlike_53 : decode cL_isUnlike 53 = .ok (.ineg, 1) := by decide +kernel
theorem dL_isUnlike_54 : decode cL_isUnlike 54 = .ok (.goto 5, 3) := by decide +kernel
theorem dL_isUnlike_57 : decode cL_isUnlike 57 = .ok (.iload 7, 2) := by decide +kernel
theorem dL_isUnlike_59 : decode cL_isUnlike 59 = .ok (.iadd, 1) := by decide +kernel
theorem dL_isUnlike_60 : decode cL_isUnlike 60 = .ok (.istore 5, 2) := by decide +kernel
theorem dL_isUnlike_62 : decode cL_isUnlike 62 = .ok (.iinc 6 1, 3) := by decide +kernel
theorem dL_isUnlike_65 : decode cL_isUnlike 65 = .ok (.goto (-59), 3) := by decide +kernel
theorem dL_isUnlike_68 : decode cL_isUnlike 68 = .ok (.bipush (-5), 2) := by decide +kernel
theorem dL_isUnlike_70 : decode cL_isUnlike 70 = .ok (.istore 6, 2) := by decide +kernel
theorem dL_isUnlike_72 : decode cL_isUnlike 72 = .ok (.iconst 0, 1) := by decide +kernel
theorem dL_isUnlike_73 : decode cL_isUnlike 73 = .ok (.istore 7, 2) := by decide +kernel
theorem dL_isUnlike_75 : decode cL_isUnlike 75 = .ok (.iconst 0, 1) := by decide +kernel
theorem dL_isUnlike_76 : decode cL_isUnlike 76 = .ok (.istore 8, 2) := by decide +kernel
theorem dL_isUnlike_78 : decode cL_isUnlike 78 = .ok (.iload 8, 2) := by decide +kernel
theorem dL_isUnlike_80 : decode cL_isUnlike 80 = .ok (.iconst 4, 1) := by decide +kernel
theorem dL_isUnlike_81 : decode cL_isUnlike 81 = .ok (.if_icmp .ge 71, 3) := by decide +kernel
theorem dL_isUnlike_84 : decode cL_isUnlike 84 = .ok (.aload_n 0, 1) := by decide +kernel
theorem dL_isUnlike_85 : decode cL_isUnlike 85 = .ok (.iload_n 1, 1) := by decide +kernel
theorem dL_isUnlike_86 : decode cL_isUnlike 86 = .ok (.iload 8, 2) := by decide +kernel
theorem dL_isUnlike_88 : decode cL_isUnlike 88 = .ok (.bipush 6, 2) := by decide +kernel
theorem dL_isUnlike_90 : decode cL_isUnlike 90 = .ok (.iload 4, 2) := by decide +kernel
theorem dL_isUnlike_92 : decode cL_isUnlike 92 = .ok (.iadd, 1) := by decide +kernel
theorem dL_isUnlike_93 : decode cL_isUnlike 93 = .ok (.invokevirtual 8, 3) := by decide +kernel
theorem dL_isUnlike_96 : decode cL_isUnlike 96 = .ok (.iload 7, 2) := by decide +kernel
theorem dL_isUnlike_98 : decode cL_isUnlike 98 = .ok (.if_icmp .le 8, 3) := by decide +kernel
theorem dL_isUnlike_101 : decode cL_isUnlike 101 = .ok (.iload 8, 2) := by decide +kernel
theorem dL_isUnlike_103 : decode cL_isUnlike 103 = .ok (.goto 5, 3) := by decide +kernel
theorem dL_isUnlike_106 : decode cL_isUnlike 106 = .ok (.iload 6, 2) := by decide +kernel
theorem dL_isUnlike_108 : decode cL_isUnlike 108 = .ok (.istore 6, 2) := by decide +kernel
theorem dL_isUnlike_110 : decode cL_isUnlike 110 = .ok (.aload_n 0, 1) := by decide +kernel
theorem dL_isUnlike_111 : decode cL_isUnlike 111 = .ok (.iload_n 1, 1) := by decide +kernel
theorem dL_isUnlike_112 : decode cL_isUnlike 112 = .ok (.iload 8, 2) := by decide +kernel
theorem dL_isUnlike_114 : decode cL_isUnlike 114 = .ok (.bipush 6, 2) := by decide +kernel
theorem dL_isUnlike_116 : decode cL_isUnlike 116 = .ok (.iload 4, 2) := by decide +kernel
theorem dL_isUnlike_118 : decode cL_isUnlike 118 = .ok (.iadd, 1) := by decide +kernel
theorem dL_isUnlike_119 : decode cL_isUnlike 119 = .ok (.invokevirtual 8, 3) := by decide +kernel
theorem dL_isUnlike_122 : decode cL_isUnlike 122 = .ok (.iload 7, 2) := by decide +kernel
theorem dL_isUnlike_124 : decode cL_isUnlike 124 = .ok (.if_icmp .le 18, 3) := by decide +kernel
theorem dL_isUnlike_127 : decode cL_isUnlike 127 = .ok (.aload_n 0, 1) := by decide +kernel
theorem dL_isUnlike_128 : decode cL_isUnlike 128 = .ok (.iload_n 1, 1) := by decide +kernel
theorem dL_isUnlike_129 : decode cL_isUnlike 129 = .ok (.iload 8, 2) := by decide +kernel
theorem dL_isUnlike_131 : decode cL_isUnlike 131 = .ok (.bipush 6, 2) := by decide +kernel
theorem dL_isUnlike_133 : decode cL_isUnlike 133 = .ok (.iload 4, 2) := by decide +kernel
theorem dL_isUnlike_135 : decode cL_isUnlike 135 = .ok (.iadd, 1) := by decide +kernel
theorem dL_isUnlike_136 : decode cL_isUnlike 136 = .ok (.invokevirtual 8, 3) := by decide +kernel
theorem dL_isUnlike_139 : decode cL_isUnlike 139 = .ok (.goto 5, 3) := by decide +kernel
theorem dL_isUnlike_142 : decode cL_isUnlike 142 = .ok (.iload 7, 2) := by decide +kernel
theorem dL_isUnlike_144 : decode cL_isUnlike 144 = .ok (.istore 7, 2) := by decide +kernel
theorem dL_isUnlike_146 : decode cL_isUnlike 146 = .ok (.iinc 8 1, 3) := by decide +kernel
theorem dL_isUnlike_149 : decode cL_isUnlike 149 = .ok (.goto (-71), 3) := by decide +kernel
theorem dL_isUnlike_152 : decode cL_isUnlike 152 = .ok (.aload_n 0, 1) := by decide +kernel
theorem dL_isUnlike_153 : decode cL_isUnlike 153 = .ok (.iload_n 1, 1) := by decide +kernel
theorem dL_isUnlike_154 : decode cL_isUnlike 154 = .ok (.iload_n 2, 1) := by decide +kernel
theorem dL_isUnlike_155 : decode cL_isUnlike 155 = .ok (.iload_n 3, 1) := by decide +kernel
theorem dL_isUnlike_156 : decode cL_isUnlike 156 = .ok (.invokevirtual 54, 3) := by decide +kernel
theorem dL_isUnlike_159 : decode cL_isUnlike 159 = .ok (.iload_n 1, 1) := by decide +kernel
theorem dL_isUnlike_160 : decode cL_isUnlike 160 = .ok (.iload_n 2, 1) := by decide +kernel
theorem dL_isUnlike_161 : decode cL_isUnlike 161 = .ok (.if_icmp .ne 8, 3) := by decide +kernel
theorem dL_isUnlike_164 : decode cL_isUnlike 164 = .ok (.bipush (-2), 2) := by decide +kernel
theorem dL_isUnlike_166 : decode cL_isUnlike 166 = .ok (.goto 5, 3) := by decide +kernel
theorem dL_isUnlike_169 : decode cL_isUnlike 169 = .ok (.iload 5, 2) := by decide +kernel
theorem dL_isUnlike_171 : decode cL_isUnlike 171 = .ok (.if_icmp .ne 19, 3) := by decide +kernel
theorem dL_isUnlike_174 : decode cL_isUnlike 174 = .ok (.aload_n 0, 1) := by decide +kernel
theorem dL_isUnlike_175 : decode cL_isUnlike 175 = .ok (.iload_n 1, 1) := by decide +kernel
theorem dL_isUnlike_176 : decode cL_isUnlike 176 = .ok (.iload 4, 2) := by decide +kernel
theorem dL_isUnlike_178 : decode cL_isUnlike 178 = .ok (.invokevirtual 57, 3) := by decide +kernel
theorem dL_isUnlike_181 : decode cL_isUnlike 181 = .ok (.iload 6, 2) := by decide +kernel
theorem dL_isUnlike_183 : decode cL_isUnlike 183 = .ok (.if_icmp .ne 7, 3) := by decide +kernel
theorem dL_isUnlike_186 : decode cL_isUnlike 186 = .ok (.iconst 1, 1) := by decide +kernel
theorem dL_isUnlike_187 : decode cL_isUnlike 187 = .ok (.goto 4, 3) := by decide +kernel
theorem dL_isUnlike_190 : decode cL_isUnlike 190 = .ok (.iconst 0, 1) := by decide +kernel
theorem dL_isUnlike_191 : decode cL_isUnlike 191 = .ok (.ireturn, 1) := by decide +kernel
