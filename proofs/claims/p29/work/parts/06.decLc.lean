set_option maxRecDepth 20000 in
theorem ggL_does_L_low : GoodIn wsL_does wsL_low := goodIn_r _ [4, 5] (by decide +kernel) (by decide +kernel)
set_option maxRecDepth 20000 in
theorem gL_does_L_low : GoodIn wsL_does (va_wsS RL 60 yL_low wsL_low) := goodIn_app (goodIn_of _ (by decide +kernel)) ggL_does_L_low
set_option maxRecDepth 20000 in
theorem ggL_does_X6_rose : GoodIn wsL_does wsX6_rose := goodIn_r _ [10, 11, 12, 13, 9, 14, 15, 16, 17, 18, 19, 20, 21, 22, 23, 24, 25, 26, 27, 28, 29, 30, 31, 32, 33, 34, 35, 36, 37, 38, 39, 40, 41, 42, 43, 44, 45, 46, 47, 48, 49, 50, 51, 52, 53, 54, 55, 56, 57, 58, 59, 60, 61, 62, 63, 64, 65, 66, 67, 68, 69, 70, 71, 72, 73, 74, 75, 76, 77, 78, 79, 80, 81, 82, 83, 84, 372, 373, 374, 375, 376, 377, 378, 379, 380, 381, 382] (by decide +kernel) (by decide +kernel)
set_option maxRecDepth 20000 in
theorem gL_does_X6_rose : GoodIn wsL_does (wsV RL 8 RX6 yX6_rose wsX6_rose) := goodIn_app (goodIn_of _ (by decide +kernel)) ggL_does_X6_rose
set_option maxRecDepth 20000 in
theorem ggL_does_X6_count : GoodIn wsL_does wsX6_count := goodIn_r _ [88, 11, 89, 90, 91, 92, 93, 94, 24, 95, 96, 97, 98, 99, 30, 100, 101, 102, 103, 104, 105, 106, 9, 107, 108, 109, 110, 111, 112, 113, 114, 115, 116, 117, 118, 119, 120, 121, 122, 123, 124, 125, 126, 127, 128, 129, 130, 131, 132, 27, 28, 29, 133, 134, 135, 136, 137, 138, 139, 66, 67, 68, 69, 70, 71, 72, 73, 74, 75, 76, 140, 141, 142, 143, 144, 145, 146, 147, 148, 149, 150, 151, 152, 153, 154, 155, 156, 157, 158, 159, 160, 38, 39, 40, 41, 22, 23, 25, 26, 31, 32, 33, 34, 161, 162, 163, 164, 165, 166, 167, 168, 169, 170, 171, 172, 173, 174, 175, 176, 177, 178, 179, 372, 373, 374, 375, 376, 377, 378, 379, 380, 383, 384, 385, 381, 382, 386, 387, 388, 389, 390, 391, 392, 393, 394, 395] (by decide +kernel) (by decide +kernel)
set_option maxRecDepth 20000 in
theorem gL_does_X6_count : GoodIn wsL_does (wsV RL 40 RX6 yX6_count wsX6_count) := goodIn_app (goodIn_of _ (by decide +kernel)) ggL_does_X6_count
set_option maxRecDepth 20000 in
theorem ggL_does_X6_hours : GoodIn wsL_does wsX6_hours := goodIn_r _ [183, 11, 12, 13, 9, 14, 15, 16, 17, 184, 185, 186, 18, 19, 20, 81, 82, 83, 24, 84, 73, 74, 75, 76, 30, 187, 188, 189, 190, 66, 67, 68, 69, 70, 71, 72, 372, 373, 374, 375, 376, 377, 378, 379, 380, 381, 382] (by decide +kernel) (by decide +kernel)
set_option maxRecDepth 20000 in
theorem gL_does_X6_hours : GoodIn wsL_does (wsV RL 14 RX6 yX6_hours wsX6_hours) := goodIn_app (goodIn_of _ (by decide +kernel)) ggL_does_X6_hours
set_option maxRecDepth 20000 in
theorem ggL_does_X6_calm : GoodIn wsL_does wsX6_calm := goodIn_r _ [194, 11, 89, 12, 13, 9, 14, 15, 16, 17, 18, 19, 20, 195, 196, 197, 24, 198, 41, 22, 23, 25, 26, 27, 28, 29, 30, 31, 32, 33, 34, 199, 200, 201, 202, 203, 204, 205, 206, 207, 208, 209, 210, 211, 212, 213, 214, 215, 216, 217, 218, 219, 220, 221, 222, 21, 372, 373, 374, 375, 376, 377, 378, 379, 380, 381, 382, 383, 384, 385] (by decide +kernel) (by decide +kernel)
set_option maxRecDepth 20000 in
theorem gL_does_X6_calm : GoodIn wsL_does (wsV RL 65 RX6 yX6_calm wsX6_calm) := goodIn_app (goodIn_of _ (by decide +kernel)) ggL_does_X6_calm
set_option maxRecDepth 20000 in
theorem ggL_does_X6_strike : GoodIn wsL_does wsX6_strike := goodIn_r _ [226, 11, 89, 12, 13, 9, 14, 15, 16, 17, 184, 185, 186, 18, 19, 20, 227, 51, 52, 24, 53, 30, 54, 55, 56, 199, 200, 201, 202, 203, 204, 205, 206, 207, 208, 209, 210, 211, 212, 213, 214, 215, 216, 217, 218, 228, 229, 230, 231, 372, 373, 374, 375, 376, 377, 378, 379, 380, 381, 382, 383, 384, 385] (by decide +kernel) (by decide +kernel)
set_option maxRecDepth 20000 in
theorem gL_does_X6_strike : GoodIn wsL_does (wsV RL 68 RX6 yX6_strike wsX6_strike) := goodIn_app (goodIn_of _ (by decide +kernel)) ggL_does_X6_strike
set_option maxRecDepth 20000 in
theorem ggL_does_L_isTurned : GoodIn wsL_does wsL_isTurned := goodIn_r _ [234, 6, 7, 8, 9, 10, 11, 12, 13, 14, 15, 16, 17, 18, 19, 20, 21, 22, 23, 24, 25, 26, 27, 28, 29, 30, 31, 32, 33, 34, 35, 36, 37, 38, 39, 40, 41, 42, 43, 44, 45, 46, 47, 48, 49, 50, 51, 52, 53, 54, 55, 56, 57, 58, 59, 60, 61, 62, 63, 64, 65, 66, 67, 68, 69, 70, 71, 72, 73, 74, 75, 76, 77, 78, 79, 80, 81, 82, 83, 84, 180, 181, 182, 183, 184, 185, 186, 187, 188, 189, 190, 235, 236, 237, 238, 89, 199, 200, 201, 202, 203, 204, 205, 206, 207, 208, 209, 210, 211, 212, 213, 214, 215, 216, 217, 218, 239, 240, 241, 242, 243, 372, 373, 374, 375, 376, 377, 378, 379, 380, 381, 382, 383, 384, 385] (by decide +kernel) (by decide +kernel)
set_option maxRecDepth 20000 in
theorem gL_does_L_isTurned : GoodIn wsL_does (va_wsS RL 71 yL_isTurned wsL_isTurned) := goodIn_app (goodIn_of _ (by decide +kernel)) ggL_does_L_isTurned
set_option maxRecDepth 20000 in
theorem ggL_does_X6_set : GoodIn wsL_does wsX6_set := goodIn_r _ [247, 11, 89, 15, 16, 9, 17, 248, 249, 250, 251, 252, 253, 254, 173, 70, 71, 24, 72, 30, 199, 200, 201, 202, 203, 204, 205, 206, 207, 208, 209, 210, 211, 212, 213, 214, 215, 216, 217, 218, 255, 256, 257, 258, 372, 373, 374, 375, 376, 377, 378, 379, 380, 381, 382, 383, 384, 385] (by decide +kernel) (by decide +kernel)
set_option maxRecDepth 20000 in
theorem gL_does_X6_set : GoodIn wsL_does (wsV RL 75 RX6 yX6_set wsX6_set) := goodIn_app (goodIn_of _ (by decide +kernel)) ggL_does_X6_set
set_option maxRecDepth 20000 in
theorem ggL_does_L_isEngraved : GoodIn wsL_does wsL_isEngraved := goodIn_r _ [261, 262, 263, 264, 9, 265, 12, 13, 14, 15, 16, 17, 18, 19, 20, 266, 267, 268, 269, 11, 108, 109, 270, 21, 22, 23, 24, 25, 26, 27, 28, 29, 30, 31, 32, 33, 34, 110, 111, 112, 113, 114, 115, 116, 117, 118, 119, 120, 121, 122, 123, 124, 125, 126, 127, 128, 129, 130, 131, 132, 133, 134, 135, 136, 137, 138, 139, 66, 67, 68, 69, 70, 71, 72, 73, 74, 75, 76, 140, 141, 142, 143, 144, 145, 146, 147, 148, 149, 150, 151, 152, 153, 154, 155, 156, 157, 158, 159, 160, 38, 39, 40, 41, 271, 272, 273, 274, 173, 275, 276, 277, 278, 279, 280, 281, 282, 283, 284, 285, 286, 287, 288, 289, 290, 291, 292, 85, 86, 87, 88, 89, 90, 91, 92, 93, 94, 95, 96, 97, 98, 99, 100, 101, 102, 103, 104, 105, 106, 107, 161, 162, 163, 164, 165, 166, 167, 168, 169, 170, 171, 172, 174, 175, 176, 177, 178, 179, 293, 294, 295, 296, 297, 298, 299, 184, 185, 186, 187, 188, 189, 300, 301, 6, 7, 8, 10, 35, 36, 37, 42, 43, 44, 45, 46, 47, 48, 49, 50, 51, 52, 53, 54, 55, 56, 57, 58, 59, 60, 61, 62, 63, 64, 65, 77, 78, 79, 80, 81, 82, 83, 84, 302, 303, 304, 305, 306, 307, 308, 309, 310, 311, 312, 313, 199, 200, 201, 202, 203, 204, 205, 206, 207, 208, 209, 210, 211, 212, 213, 214, 215, 216, 217, 218, 314, 315, 316, 317, 318, 319, 372, 373, 374, 375, 376, 377, 378, 379, 380, 386, 387, 388, 389, 381, 382, 390, 391, 392, 393, 383, 384, 385, 394, 395] (by decide +kernel) (by decide +kernel)
set_option maxRecDepth 20000 in
theorem gL_does_L_isEngraved : GoodIn wsL_does (va_wsS RL 78 yL_isEngraved wsL_isEngraved) := goodIn_app (goodIn_of _ (by decide +kernel)) ggL_does_L_isEngraved
set_option maxRecDepth 20000 in
theorem ggL_does_X6_plate : GoodIn wsL_does wsX6_plate := goodIn_r _ [278, 11, 108, 279, 270, 12, 13, 9, 14, 15, 16, 17, 18, 19, 20, 280, 157, 158, 24, 159, 30, 271, 272, 273, 274, 281, 282, 283, 284, 285, 145, 146, 147, 286, 287, 288, 289, 290, 291, 154, 292, 110, 111, 112, 113, 114, 115, 116, 117, 118, 119, 120, 121, 122, 123, 124, 125, 126, 127, 128, 129, 130, 131, 132, 27, 28, 29, 133, 134, 135, 136, 137, 138, 139, 66, 67, 68, 69, 70, 71, 72, 73, 74, 75, 76, 140, 141, 142, 143, 144, 148, 149, 150, 151, 152, 153, 155, 156, 160, 38, 39, 40, 41, 22, 23, 25, 26, 31, 32, 33, 34, 372, 373, 374, 375, 376, 377, 378, 379, 380, 386, 387, 388, 389, 381, 382, 390, 391, 392, 393] (by decide +kernel) (by decide +kernel)
set_option maxRecDepth 20000 in
theorem gL_does_X6_plate : GoodIn wsL_does (wsV RL 30 RX6 yX6_plate wsX6_plate) := goodIn_app (goodIn_of _ (by decide +kernel)) ggL_does_X6_plate
set_option maxRecDepth 20000 in
theorem ggL_does_X6_renew : GoodIn wsL_does wsX6_renew := goodIn_r _ [323, 11, 89, 12, 13, 9, 14, 15, 16, 17, 18, 19, 20, 324, 325, 326, 24, 327, 328, 282, 283, 284, 285, 145, 146, 147, 30, 329, 157, 158, 159, 330, 272, 273, 274, 271, 199, 200, 201, 202, 203, 204, 205, 206, 207, 208, 209, 210, 211, 212, 213, 214, 215, 216, 217, 218, 331, 332, 333, 334, 372, 373, 374, 375, 376, 377, 378, 379, 380, 381, 382, 383, 384, 385] (by decide +kernel) (by decide +kernel)
set_option maxRecDepth 20000 in
theorem gL_does_X6_renew : GoodIn wsL_does (wsV RL 82 RX6 yX6_renew wsX6_renew) := goodIn_app (goodIn_of _ (by decide +kernel)) ggL_does_X6_renew
set_option maxRecDepth 20000 in
theorem ggL_does_L_areQuarters : GoodIn wsL_does wsL_areQuarters := goodIn_r _ [337, 180, 181, 182, 9, 183, 11, 12, 13, 14, 15, 16, 17, 184, 185, 186, 18, 19, 20, 81, 82, 83, 24, 84, 73, 74, 75, 76, 30, 187, 188, 189, 190, 66, 67, 68, 69, 70, 71, 72, 338, 339, 340, 341, 342, 343, 344, 345, 346, 347, 348, 349, 350, 351, 352, 353, 354, 291, 154, 292, 372, 373, 374, 375, 376, 377, 378, 379, 380, 381, 382] (by decide +kernel) (by decide +kernel)
set_option maxRecDepth 20000 in
theorem gL_does_L_areQuarters : GoodIn wsL_does (va_wsS RL 85 yL_areQuarters wsL_areQuarters) := goodIn_app (goodIn_of _ (by decide +kernel)) ggL_does_L_areQuarters
set_option maxRecDepth 20000 in
theorem ggL_does_L_isUnlike : GoodIn wsL_does wsL_isUnlike := goodIn_r _ [357, 302, 303, 304, 9, 305, 306, 11, 307, 297, 298, 299, 12, 13, 14, 15, 16, 17, 184, 185, 186, 187, 188, 189, 18, 19, 20, 308, 121, 122, 123, 124, 125, 126, 127, 128, 129, 130, 131, 132, 27, 28, 24, 29, 30, 133, 134, 135, 136, 137, 138, 139, 66, 67, 68, 69, 70, 71, 72, 73, 74, 75, 76, 140, 141, 142, 143, 300, 6, 7, 8, 10, 21, 22, 23, 25, 26, 31, 32, 33, 34, 35, 36, 37, 38, 39, 40, 41, 42, 43, 44, 45, 46, 47, 48, 49, 50, 51, 52, 53, 54, 55, 56, 57, 58, 59, 60, 61, 62, 63, 64, 65, 77, 78, 79, 80, 81, 82, 83, 84, 358, 359, 360, 361, 362, 363, 153, 154, 155, 364, 365, 366, 367, 372, 373, 374, 375, 376, 377, 378, 379, 380, 390, 391, 392, 393, 381, 382] (by decide +kernel) (by decide +kernel)
set_option maxRecDepth 20000 in
theorem gL_does_L_isUnlike : GoodIn wsL_does (va_wsS RL 88 yL_isUnlike wsL_isUnlike) := goodIn_app (goodIn_of _ (by decide +kernel)) ggL_does_L_isUnlike
set_option maxRecDepth 20000 in
theorem ggL_does_X6_log : GoodIn wsL_does wsX6_log := goodIn_r _ [371, 11, 89, 12, 13, 9, 14, 15, 16, 17, 184, 185, 186, 18, 19, 20, 195, 196, 197, 24, 198, 41, 22, 23, 25, 26, 27, 28, 29, 30, 31, 32, 33, 34, 199, 200, 201, 202, 203, 204, 205, 206, 207, 208, 209, 210, 211, 212, 213, 214, 215, 216, 217, 218, 228, 229, 230, 231, 54, 55, 56, 21, 372, 373, 374, 375, 376, 377, 378, 379, 380, 381, 382, 383, 384, 385] (by decide +kernel) (by decide +kernel)
set_option maxRecDepth 20000 in
theorem gL_does_X6_log : GoodIn wsL_does (wsV RL 92 RX6 yX6_log wsX6_log) := goodIn_app (goodIn_of _ (by decide +kernel)) ggL_does_X6_log
theorem dL_does_0 : decode cL_does 0 = .ok (.iload_n 1, 1) := by decide +kernel
theorem dL_does_1 : decode cL_does 1 = .ok (.iconst 5, 1) := by decide +kernel
theorem dL_does_2 : decode cL_does 2 = .ok (.ishr, 1) := by decide +kernel
theorem dL_does_3 : decode cL_does 3 = .ok (.iconst 1, 1) := by decide +kernel
theorem dL_does_4 : decode cL_does 4 = .ok (.iand, 1) := by decide +kernel
theorem dL_does_5 : decode cL_does 5 = .ok (.istore 4, 2) := by decide +kernel
theorem dL_does_7 : decode cL_does 7 = .ok (.iload_n 1, 1) := by decide +kernel
theorem dL_does_8 : decode cL_does 8 = .ok (.bipush 6, 2) := by decide +kernel
theorem dL_does_10 : decode cL_does 10 = .ok (.ishr, 1) := by decide +kernel
theorem dL_does_11 : decode cL_does 11 = .ok (.iconst 1, 1) := by decide +kernel
theorem dL_does_12 : decode cL_does 12 = .ok (.iand, 1) := by decide +kernel
theorem dL_does_13 : decode cL_does 13 = .ok (.istore 5, 2) := by decide +kernel
theorem dL_does_15 : decode cL_does 15 = .ok (.iload_n 2, 1) := by decide +kernel
theorem dL_does_16 : decode cL_does 16 = .ok (.bipush 16, 2) := by decide +kernel
theorem dL_does_18 : decode cL_does 18 = .ok (.invokestatic 60, 3) := by decide +kernel
theorem dL_does_21 : decode cL_does 21 = .ok (.istore 6, 2) := by decide +kernel
theorem dL_does_23 : decode cL_does 23 = .ok (.iconst 1, 1) := by decide +kernel
theorem dL_does_24 : decode cL_does 24 = .ok (.iload_n 2, 1) := by decide +kernel
theorem dL_does_25 : decode cL_does 25 = .ok (.iconst 4, 1) := by decide +kernel
theorem dL_does_26 : decode cL_does 26 = .ok (.ishr, 1) := by decide +kernel
theorem dL_does_27 : decode cL_does 27 = .ok (.iload_n 2, 1) := by decide +kernel
theorem dL_does_28 : decode cL_does 28 = .ok (.iconst 3, 1) := by decide +kernel
theorem dL_does_29 : decode cL_does 29 = .ok (.ishr, 1) := by decide +kernel
theorem dL_does_30 : decode cL_does 30 = .ok (.iconst 1, 1) := by decide +kernel
theorem dL_does_31 : decode cL_does 31 = .ok (.iand, 1) := by decide +kernel
theorem dL_does_32 : decode cL_does 32 = .ok (.ifCond .ne 8, 3) := by decide +kernel
theorem dL_does_35 : decode cL_does 35 = .ok (.bipush 99, 2) := by decide +kernel
theorem dL_does_37 : decode cL_does 37 = .ok (.goto 5, 3) := by decide +kernel
theorem dL_does_40 : decode cL_does 40 = .ok (.bipush 40, 2) := by decide +kernel
theorem dL_does_42 : decode cL_does 42 = .ok (.invokestatic 60, 3) := by decide +kernel
theorem dL_does_45 : decode cL_does 45 = .ok (.iadd, 1) := by decide +kernel
theorem dL_does_46 : decode cL_does 46 = .ok (.istore 7, 2) := by decide +kernel
theorem dL_does_48 : decode cL_does 48 = .ok (.iconst 1, 1) := by decide +kernel
theorem dL_does_49 : decode cL_does 49 = .ok (.iload_n 2, 1) := by decide +kernel
theorem dL_does_50 : decode cL_does 50 = .ok (.bipush 11, 2) := by decide +kernel
theorem dL_does_52 : decode cL_does 52 = .ok (.ishr, 1) := by decide +kernel
theorem dL_does_53 : decode cL_does 53 = .ok (.iload_n 2, 1) := by decide +kernel
theorem dL_does_54 : decode cL_does 54 = .ok (.bipush 18, 2) := by decide +kernel
theorem dL_does_56 : decode cL_does 56 = .ok (.ishr, 1) := by decide +kernel
theorem dL_does_57 : decode cL_does 57 = .ok (.iconst 3, 1) := by decide +kernel
theorem dL_does_58 : decode cL_does 58 = .ok (.iand, 1) := by decide +kernel
theorem dL_does_59 : decode cL_does 59 = .ok (.ifCond .ne 8, 3) := by decide +kernel
theorem dL_does_62 : decode cL_does 62 = .ok (.bipush 99, 2) := by decide +kernel
theorem dL_does_64 : decode cL_does 64 = .ok (.goto 5, 3) := by decide +kernel
theorem dL_does_67 : decode cL_does 67 = .ok (.bipush 9, 2) := by decide +kernel
theorem dL_does_69 : decode cL_does 69 = .ok (.invokestatic 60, 3) := by decide +kernel
theorem dL_does_72 : decode cL_does 72 = .ok (.iadd, 1) := by decide +kernel
theorem dL_does_73 : decode cL_does 73 = .ok (.istore 8, 2) := by decide +kernel
theorem dL_does_75 : decode cL_does 75 = .ok (.aload_n 0, 1) := by decide +kernel
theorem dL_does_76 : decode cL_does 76 = .ok (.iload 4, 2) := by decide +kernel
theorem dL_does_78 : decode cL_does 78 = .ok (.iload 5, 2) := by decide +kernel
theorem dL_does_80 : decode cL_does 80 = .ok (.iconst 0, 1) := by decide +kernel
theorem dL_does_81 : decode cL_does 81 = .ok (.invokevirtual 8, 3) := by decide +kernel
theorem dL_does_84 : decode cL_does 84 = .ok (.istore 9, 2) := by decide +kernel
theorem dL_does_86 : decode cL_does 86 = .ok (.iload 7, 2) := by decide +kernel
theorem dL_does_88 : decode cL_does 88 = .ok (.aload_n 0, 1) := by decide +kernel
theorem dL_does_89 : decode cL_does 89 = .ok (.bipush 6, 2) := by decide +kernel
theorem dL_does_91 : decode cL_does 91 = .ok (.invokevirtual 40, 3) := by decide +kernel
theorem dL_does_94 : decode cL_does 94 = .ok (.if_icmp .ge 7, 3) := by decide +kernel
theorem dL_does_97 : decode cL_does 97 = .ok (.iconst 0, 1) := by decide +kernel
theorem dL_does_98 : decode cL_does 98 = .ok (.goto 19, 3) := by decide +kernel
theorem dL_does_101 : decode cL_does 101 = .ok (.iload 7, 2) := by decide +kernel
theorem dL_does_103 : decode cL_does 103 = .ok (.aload_n 0, 1) := by decide +kernel
theorem dL_does_104 : decode cL_does 104 = .ok (.bipush 7, 2) := by decide +kernel
theorem dL_does_106 : decode cL_does 106 = .ok (.invokevirtual 40, 3) := by decide +kernel
theorem dL_does_109 : decode cL_does 109 = .ok (.if_icmp .ge 7, 3) := by decide +kernel
theorem dL_does_112 : decode cL_does 112 = .ok (.iconst 1, 1) := by decide +kernel
theorem dL_does_113 : decode cL_does 113 = .ok (.goto 4, 3) := by decide +kernel
theorem dL_does_116 : decode cL_does 116 = .ok (.iconst 2, 1) := by decide +kernel
theorem dL_does_117 : decode cL_does 117 = .ok (.istore 10, 2) := by decide +kernel
theorem dL_does_119 : decode cL_does 119 = .ok (.aload_n 0, 1) := by decide +kernel
theorem dL_does_120 : decode cL_does 120 = .ok (.iload 4, 2) := by decide +kernel
theorem dL_does_122 : decode cL_does 122 = .ok (.iload 5, 2) := by decide +kernel
theorem dL_does_124 : decode cL_does 124 = .ok (.iload 6, 2) := by decide +kernel
theorem dL_does_126 : decode cL_does 126 = .ok (.iload 10, 2) := by decide +kernel
theorem dL_does_128 : decode cL_does 128 = .ok (.invokevirtual 14, 3) := by decide +kernel
theorem dL_does_131 : decode cL_does 131 = .ok (.istore 11, 2) := by decide +kernel
theorem dL_does_133 : decode cL_does 133 = .ok (.iload 9, 2) := by decide +kernel
theorem dL_does_135 : decode cL_does 135 = .ok (.iload 8, 2) := by decide +kernel
theorem dL_does_137 : decode cL_does 137 = .ok (.iadd, 1) := by decide +kernel
theorem dL_does_138 : decode cL_does 138 = .ok (.sipush 9999, 3) := by decide +kernel
theorem dL_does_141 : decode cL_does 141 = .ok (.if_icmp .gt 7, 3) := by decide +kernel
theorem dL_does_144 : decode cL_does 144 = .ok (.iconst 1, 1) := by decide +kernel
theorem dL_does_145 : decode cL_does 145 = .ok (.goto 4, 3) := by decide +kernel
theorem dL_does_148 : decode cL_does 148 = .ok (.iconst 0, 1) := by decide +kernel
theorem dL_does_149 : decode cL_does 149 = .ok (.istore 12, 2) := by decide +kernel
theorem dL_does_151 : decode cL_does 151 = .ok (.iload_n 1, 1) := by decide +kernel
theorem dL_does_152 : decode cL_does 152 = .ok (.bipush 20, 2) := by decide +kernel
theorem dL_does_154 : decode cL_does 154 = .ok (.invokestatic 60, 3) := by decide +kernel
theorem dL_does_157 : decode cL_does 157 = .ok (.tableswitch 601 0 10 #[59, 59, 131, 242, 260, 411, 411, 411, 411, 420, 563], 59) := by decide +kernel
theorem dL_does_216 : decode cL_does 216 = .ok (.aload_n 0, 1) := by decide +kernel
theorem dL_does_217 : decode cL_does 217 = .ok (.iload 4, 2) := by decide +kernel
theorem dL_does_219 : decode cL_does 219 = .ok (.iload 5, 2) := by decide +kernel
theorem dL_does_221 : decode cL_does 221 = .ok (.iconst 2, 1) := by decide +kernel
theorem dL_does_222 : decode cL_does 222 = .ok (.invokevirtual 8, 3) := by decide +kernel
theorem dL_does_225 : decode cL_does 225 = .ok (.istore 13, 2) := by decide +kernel
theorem dL_does_227 : decode cL_does 227 = .ok (.aload_n 0, 1) := by decide +kernel
theorem dL_does_228 : decode cL_does 228 = .ok (.iload 4, 2) := by decide +kernel
theorem dL_does_230 : decode cL_does 230 = .ok (.iload 5, 2) := by decide +kernel
theorem dL_does_232 : decode cL_does 232 = .ok (.iload 8, 2) := by decide +kernel
theorem dL_does_234 : decode cL_does 234 = .ok (.invokevirtual 65, 3) := by decide +kernel
theorem dL_does_237 : decode cL_does 237 = .ok (.iload 12, 2) := by decide +kernel
theorem dL_does_239 : decode cL_does 239 = .ok (.ifCond .eq 11, 3) := by decide +kernel
theorem dL_does_242 : decode cL_does 242 = .ok (.iload 9, 2) := by decide +kernel
theorem dL_does_244 : decode cL_does 244 = .ok (.iload 8, 2) := by decide +kernel
theorem dL_does_246 : decode cL_does 246 = .ok (.iadd, 1) := by decide +kernel
theorem dL_does_247 : decode cL_does 247 = .ok (.goto 5, 3) := by decide +kernel
theorem dL_does_250 : decode cL_does 250 = .ok (.bipush (-3), 2) := by decide +kernel
theorem dL_does_252 : decode cL_does 252 = .ok (.if_icmp .ne 34, 3) := by decide +kernel
theorem dL_does_255 : decode cL_does 255 = .ok (.aload_n 0, 1) := by decide +kernel
theorem dL_does_256 : decode cL_does 256 = .ok (.iload 4, 2) := by decide +kernel
theorem dL_does_258 : decode cL_does 258 = .ok (.iload 5, 2) := by decide +kernel
theorem dL_does_260 : decode cL_does 260 = .ok (.iconst 2, 1) := by decide +kernel
theorem dL_does_261 : decode cL_does 261 = .ok (.invokevirtual 8, 3) := by decide +kernel
theorem dL_does_264 : decode cL_does 264 = .ok (.iload 12, 2) := by decide +kernel
theorem dL_does_266 : decode cL_does 266 = .ok (.ifCond .eq 11, 3) := by decide +kernel
theorem dL_does_269 : decode cL_does 269 = .ok (.iload 13, 2) := by decide +kernel
theorem dL_does_271 : decode cL_does 271 = .ok (.iload 8, 2) := by decide +kernel
theorem dL_does_273 : decode cL_does 273 = .ok (.iadd, 1) := by decide +kernel
theorem dL_does_274 : decode cL_does 274 = .ok (.goto 5, 3) := by decide +kernel
theorem dL_does_277 : decode cL_does 277 = .ok (.iload 13, 2) := by decide +kernel
theorem dL_does_279 : decode cL_does 279 = .ok (.if_icmp .ne 7, 3) := by decide +kernel
theorem dL_does_282 : decode cL_does 282 = .ok (.iconst 1, 1) := by decide +kernel
theorem dL_does_283 : decode cL_does 283 = .ok (.goto 4, 3) := by decide +kernel
theorem dL_does_286 : decode cL_does 286 = .ok (.iconst 0, 1) := by decide +kernel
theorem dL_does_287 : decode cL_does 287 = .ok (.ireturn, 1) := by decide +kernel
theorem dL_does_288 : decode cL_does 288 = .ok (.aload_n 0, 1) := by decide +kernel
theorem dL_does_289 : decode cL_does 289 = .ok (.iload 4, 2) := by decide +kernel
theorem dL_does_291 : decode cL_does 291 = .ok (.iload 5, 2) := by decide +kernel
theorem dL_does_293 : decode cL_does 293 = .ok (.iload 6, 2) := by decide +kernel
theorem dL_does_295 : decode cL_does 295 = .ok (.iload 7, 2) := by decide +kernel
theorem dL_does_297 : decode cL_does 297 = .ok (.invokevirtual 68, 3) := by decide +kernel
theorem dL_does_300 : decode cL_does 300 = .ok (.istore 14, 2) := by decide +kernel
theorem dL_does_302 : decode cL_does 302 = .ok (.iload 14, 2) := by decide +kernel
theorem dL_does_304 : decode cL_does 304 = .ok (.bipush (-5), 2) := by decide +kernel
theorem dL_does_306 : decode cL_does 306 = .ok (.if_icmp .ne 28, 3) := by decide +kernel
theorem dL_does_309 : decode cL_does 309 = .ok (.aload_n 0, 1) := by decide +kernel
theorem dL_does_310 : decode cL_does 310 = .ok (.iload 4, 2) := by decide +kernel
theorem dL_does_312 : decode cL_does 312 = .ok (.iload 5, 2) := by decide +kernel
theorem dL_does_314 : decode cL_does 314 = .ok (.iload 6, 2) := by decide +kernel
theorem dL_does_316 : decode cL_does 316 = .ok (.iload 10, 2) := by decide +kernel
theorem dL_does_318 : decode cL_does 318 = .ok (.invokevirtual 14, 3) := by decide +kernel
theorem dL_does_321 : decode cL_does 321 = .ok (.iload 11, 2) := by decide +kernel
theorem dL_does_323 : decode cL_does 323 = .ok (.if_icmp .ne 7, 3) := by decide +kernel
theorem dL_does_326 : decode cL_does 326 = .ok (.iconst 1, 1) := by decide +kernel
theorem dL_does_327 : decode cL_does 327 = .ok (.goto 71, 3) := by decide +kernel
theorem dL_does_330 : decode cL_does 330 = .ok (.iconst 0, 1) := by decide +kernel
theorem dL_does_331 : decode cL_does 331 = .ok (.goto 67, 3) := by decide +kernel
theorem dL_does_334 : decode cL_does 334 = .ok (.iload 14, 2) := by decide +kernel
theorem dL_does_336 : decode cL_does 336 = .ok (.ifCond .le 61, 3) := by decide +kernel
theorem dL_does_339 : decode cL_does 339 = .ok (.aload_n 0, 1) := by decide +kernel
theorem dL_does_340 : decode cL_does 340 = .ok (.iload 4, 2) := by decide +kernel
theorem dL_does_342 : decode cL_does 342 = .ok (.iload 5, 2) := by decide +kernel
theorem dL_does_344 : decode cL_does 344 = .ok (.iload 6, 2) := by decide +kernel
theorem dL_does_346 : decode cL_does 346 = .ok (.iload 10, 2) := by decide +kernel
theorem dL_does_348 : decode cL_does 348 = .ok (.invokevirtual 14, 3) := by decide +kernel
theorem dL_does_351 : decode cL_does 351 = .ok (.iload 11, 2) := by decide +kernel
theorem dL_does_353 : decode cL_does 353 = .ok (.iload 14, 2) := by decide +kernel
theorem dL_does_355 : decode cL_does 355 = .ok (.isub, 1) := by decide +kernel
theorem dL_does_356 : decode cL_does 356 = .ok (.if_icmp .ne 41, 3) := by decide +kernel
theorem dL_does_359 : decode cL_does 359 = .ok (.aload_n 0, 1) := by decide +kernel
theorem dL_does_360 : decode cL_does 360 = .ok (.iload 4, 2) := by decide +kernel
theorem dL_does_362 : decode cL_does 362 = .ok (.iload 5, 2) := by decide +kernel
theorem dL_does_364 : decode cL_does 364 = .ok (.iconst 0, 1) := by decide +kernel
theorem dL_does_365 : decode cL_does 365 = .ok (.invokevirtual 8, 3) := by decide +kernel
theorem dL_does_368 : decode cL_does 368 = .ok (.iload 9, 2) := by decide +kernel
theorem dL_does_370 : decode cL_does 370 = .ok (.iload 14, 2) := by decide +kernel
theorem dL_does_372 : decode cL_does 372 = .ok (.isub, 1) := by decide +kernel
theorem dL_does_373 : decode cL_does 373 = .ok (.if_icmp .ne 24, 3) := by decide +kernel
theorem dL_does_376 : decode cL_does 376 = .ok (.aload_n 0, 1) := by decide +kernel
theorem dL_does_377 : decode cL_does 377 = .ok (.iload 4, 2) := by decide +kernel
theorem dL_does_379 : decode cL_does 379 = .ok (.iload 5, 2) := by decide +kernel
theorem dL_does_381 : decode cL_does 381 = .ok (.iload 6, 2) := by decide +kernel
theorem dL_does_383 : decode cL_does 383 = .ok (.iload 7, 2) := by decide +kernel
theorem dL_does_385 : decode cL_does 385 = .ok (.invokevirtual 68, 3) := by decide +kernel
theorem dL_does_388 : decode cL_does 388 = .ok (.bipush (-5), 2) := by decide +kernel
theorem dL_does_390 : decode cL_does 390 = .ok (.if_icmp .ne 7, 3) := by decide +kernel
theorem dL_does_393 : decode cL_does 393 = .ok (.iconst 1, 1) := by decide +kernel
theorem dL_does_394 : decode cL_does 394 = .ok (.goto 4, 3) := by decide +kernel
theorem dL_does_397 : decode cL_does 397 = .ok (.iconst 0, 1) := by decide +kernel
theorem dL_does_398 : decode cL_does 398 = .ok (.ireturn, 1) := by decide +kernel
theorem dL_does_399 : decode cL_does 399 = .ok (.aload_n 0, 1) := by decide +kernel
theorem dL_does_400 : decode cL_does 400 = .ok (.iload 4, 2) := by decide +kernel
theorem dL_does_402 : decode cL_does 402 = .ok (.iload 5, 2) := by decide +kernel
theorem dL_does_404 : decode cL_does 404 = .ok (.iconst 1, 1) := by decide +kernel
theorem dL_does_405 : decode cL_does 405 = .ok (.iload_n 2, 1) := by decide +kernel
theorem dL_does_406 : decode cL_does 406 = .ok (.bipush 15, 2) := by decide +kernel
theorem dL_does_408 : decode cL_does 408 = .ok (.invokestatic 60, 3) := by decide +kernel
theorem dL_does_411 : decode cL_does 411 = .ok (.iadd, 1) := by decide +kernel
theorem dL_does_412 : decode cL_does 412 = .ok (.aload_n 3, 1) := by decide +kernel
theorem dL_does_413 : decode cL_does 413 = .ok (.invokestatic 71, 3) := by decide +kernel
theorem dL_does_416 : decode cL_does 416 = .ok (.ireturn, 1) := by decide +kernel
theorem dL_does_417 : decode cL_does 417 = .ok (.iload_n 1, 1) := by decide +kernel
theorem dL_does_418 : decode cL_does 418 = .ok (.bipush 7, 2) := by decide +kernel
theorem dL_does_420 : decode cL_does 420 = .ok (.ishr, 1) := by decide +kernel
theorem dL_does_421 : decode cL_does 421 = .ok (.iconst 3, 1) := by decide +kernel
theorem dL_does_422 : decode cL_does 422 = .ok (.invokestatic 60, 3) := by decide +kernel
theorem dL_does_425 : decode cL_does 425 = .ok (.istore 15, 2) := by decide +kernel
theorem dL_does_427 : decode cL_does 427 = .ok (.iload 15, 2) := by decide +kernel
theorem dL_does_429 : decode cL_does 429 = .ok (.iconst 2, 1) := by decide +kernel
theorem dL_does_430 : decode cL_does 430 = .ok (.if_icmp .ne 12, 3) := by decide +kernel
theorem dL_does_433 : decode cL_does 433 = .ok (.iload_n 2, 1) := by decide +kernel
theorem dL_does_434 : decode cL_does 434 = .ok (.bipush 10, 2) := by decide +kernel
theorem dL_does_436 : decode cL_does 436 = .ok (.invokestatic 60, 3) := by decide +kernel
theorem dL_does_439 : decode cL_does 439 = .ok (.goto 11, 3) := by decide +kernel
theorem dL_does_442 : decode cL_does 442 = .ok (.iconst 1, 1) := by decide +kernel
theorem dL_does_443 : decode cL_does 443 = .ok (.iload_n 2, 1) := by decide +kernel
theorem dL_does_444 : decode cL_does 444 = .ok (.bipush 60, 2) := by decide +kernel
theorem dL_does_446 : decode cL_does 446 = .ok (.invokestatic 60, 3) := by decide +kernel
theorem dL_does_449 : decode cL_does 449 = .ok (.iadd, 1) := by decide +kernel
theorem dL_does_450 : decode cL_does 450 = .ok (.istore 16, 2) := by decide +kernel
theorem dL_does_452 : decode cL_does 452 = .ok (.aload_n 0, 1) := by decide +kernel
theorem dL_does_453 : decode cL_does 453 = .ok (.bipush 6, 2) := by decide +kernel
theorem dL_does_455 : decode cL_does 455 = .ok (.iload 15, 2) := by decide +kernel
theorem dL_does_457 : decode cL_does 457 = .ok (.iadd, 1) := by decide +kernel
theorem dL_does_458 : decode cL_does 458 = .ok (.invokevirtual 40, 3) := by decide +kernel
theorem dL_does_461 : decode cL_does 461 = .ok (.istore 17, 2) := by decide +kernel
theorem dL_does_463 : decode cL_does 463 = .ok (.iload 15, 2) := by decide +kernel
theorem dL_does_465 : decode cL_does 465 = .ok (.ifCond .ne 14, 3) := by decide +kernel
theorem dL_does_468 : decode cL_does 468 = .ok (.iload 16, 2) := by decide +kernel
theorem dL_does_470 : decode cL_does 470 = .ok (.aload_n 0, 1) := by decide +kernel
theorem dL_does_471 : decode cL_does 471 = .ok (.bipush 7, 2) := by decide +kernel
theorem dL_does_473 : decode cL_does 473 = .ok (.invokevirtual 40, 3) := by decide +kernel
theorem dL_does_476 : decode cL_does 476 = .ok (.if_icmp .ge 20, 3) := by decide +kernel
theorem dL_does_479 : decode cL_does 479 = .ok (.iload 15, 2) := by decide +kernel
theorem dL_does_481 : decode cL_does 481 = .ok (.iconst 1, 1) := by decide +kernel
theorem dL_does_482 : decode cL_does 482 = .ok (.if_icmp .ne 18, 3) := by decide +kernel
theorem dL_does_485 : decode cL_does 485 = .ok (.iload 16, 2) := by decide +kernel
theorem dL_does_487 : decode cL_does 487 = .ok (.aload_n 0, 1) := by decide +kernel
theorem dL_does_488 : decode cL_does 488 = .ok (.bipush 6, 2) := by decide +kernel
theorem dL_does_490 : decode cL_does 490 = .ok (.invokevirtual 40, 3) := by decide +kernel
theorem dL_does_493 : decode cL_does 493 = .ok (.if_icmp .gt 7, 3) := by decide +kernel
theorem dL_does_496 : decode cL_does 496 = .ok (.iconst 1, 1) := by decide +kernel
theorem dL_does_497 : decode cL_does 497 = .ok (.goto 4, 3) := by decide +kernel
theorem dL_does_500 : decode cL_does 500 = .ok (.iconst 0, 1) := by decide +kernel
theorem dL_does_501 : decode cL_does 501 = .ok (.istore 18, 2) := by decide +kernel
theorem dL_does_503 : decode cL_does 503 = .ok (.aload_n 0, 1) := by decide +kernel
theorem dL_does_504 : decode cL_does 504 = .ok (.iload 15, 2) := by decide +kernel
theorem dL_does_506 : decode cL_does 506 = .ok (.iload 16, 2) := by decide +kernel
theorem dL_does_508 : decode cL_does 508 = .ok (.invokevirtual 75, 3) := by decide +kernel
theorem dL_does_511 : decode cL_does 511 = .ok (.iload 18, 2) := by decide +kernel
theorem dL_does_513 : decode cL_does 513 = .ok (.ifCond .eq 8, 3) := by decide +kernel
theorem dL_does_516 : decode cL_does 516 = .ok (.bipush (-4), 2) := by decide +kernel
theorem dL_does_518 : decode cL_does 518 = .ok (.goto 17, 3) := by decide +kernel
theorem dL_does_521 : decode cL_does 521 = .ok (.iload 17, 2) := by decide +kernel
theorem dL_does_523 : decode cL_does 523 = .ok (.iload 16, 2) := by decide +kernel
theorem dL_does_525 : decode cL_does 525 = .ok (.if_icmp .ne 8, 3) := by decide +kernel
theorem dL_does_528 : decode cL_does 528 = .ok (.bipush (-5), 2) := by decide +kernel
theorem dL_does_530 : decode cL_does 530 = .ok (.goto 5, 3) := by decide +kernel
theorem dL_does_533 : decode cL_does 533 = .ok (.iload 17, 2) := by decide +kernel
theorem dL_does_535 : decode cL_does 535 = .ok (.if_icmp .ne 31, 3) := by decide +kernel
theorem dL_does_538 : decode cL_does 538 = .ok (.aload_n 0, 1) := by decide +kernel
theorem dL_does_539 : decode cL_does 539 = .ok (.bipush 6, 2) := by decide +kernel
theorem dL_does_541 : decode cL_does 541 = .ok (.iload 15, 2) := by decide +kernel
theorem dL_does_543 : decode cL_does 543 = .ok (.iadd, 1) := by decide +kernel
theorem dL_does_544 : decode cL_does 544 = .ok (.invokevirtual 40, 3) := by decide +kernel
theorem dL_does_547 : decode cL_does 547 = .ok (.iload 18, 2) := by decide +kernel
theorem dL_does_549 : decode cL_does 549 = .ok (.ifCond .eq 8, 3) := by decide +kernel
theorem dL_does_552 : decode cL_does 552 = .ok (.iload 17, 2) := by decide +kernel
theorem dL_does_554 : decode cL_does 554 = .ok (.goto 5, 3) := by decide +kernel
theorem dL_does_557 : decode cL_does 557 = .ok (.iload 16, 2) := by decide +kernel
theorem dL_does_559 : decode cL_does 559 = .ok (.if_icmp .ne 7, 3) := by decide +kernel
theorem dL_does_562 : decode cL_does 562 = .ok (.iconst 1, 1) := by decide +kernel
theorem dL_does_563 : decode cL_does 563 = .ok (.goto 4, 3) := by decide +kernel
theorem dL_does_566 : decode cL_does 566 = .ok (.iconst 0, 1) := by decide +kernel
theorem dL_does_567 : decode cL_does 567 = .ok (.ireturn, 1) := by decide +kernel
theorem dL_does_568 : decode cL_does 568 = .ok (.aload_n 0, 1) := by decide +kernel
theorem dL_does_569 : decode cL_does 569 = .ok (.iload 4, 2) := by decide +kernel
theorem dL_does_571 : decode cL_does 571 = .ok (.iload 5, 2) := by decide +kernel
theorem dL_does_573 : decode cL_does 573 = .ok (.invokestatic 78, 3) := by decide +kernel
theorem dL_does_576 : decode cL_does 576 = .ok (.ireturn, 1) := by decide +kernel
theorem dL_does_577 : decode cL_does 577 = .ok (.aload_n 0, 1) := by decide +kernel
theorem dL_does_578 : decode cL_does 578 = .ok (.iload 4, 2) := by decide +kernel
theorem dL_does_580 : decode cL_does 580 = .ok (.iload 5, 2) := by decide +kernel
theorem dL_does_582 : decode cL_does 582 = .ok (.iconst 1, 1) := by decide +kernel
theorem dL_does_583 : decode cL_does 583 = .ok (.invokevirtual 30, 3) := by decide +kernel
theorem dL_does_586 : decode cL_does 586 = .ok (.istore 19, 2) := by decide +kernel
theorem dL_does_588 : decode cL_does 588 = .ok (.iload 19, 2) := by decide +kernel
theorem dL_does_590 : decode cL_does 590 = .ok (.ifCond .ne 31, 3) := by decide +kernel
theorem dL_does_593 : decode cL_does 593 = .ok (.aload_n 0, 1) := by decide +kernel
theorem dL_does_594 : decode cL_does 594 = .ok (.iload 4, 2) := by decide +kernel
theorem dL_does_596 : decode cL_does 596 = .ok (.iload 5, 2) := by decide +kernel
theorem dL_does_598 : decode cL_does 598 = .ok (.iconst 0, 1) := by decide +kernel
theorem dL_does_599 : decode cL_does 599 = .ok (.invokevirtual 30, 3) := by decide +kernel
theorem dL_does_602 : decode cL_does 602 = .ok (.ifCond .ne 19, 3) := by decide +kernel
theorem dL_does_605 : decode cL_does 605 = .ok (.aload_n 0, 1) := by decide +kernel
theorem dL_does_606 : decode cL_does 606 = .ok (.iload 4, 2) := by decide +kernel
theorem dL_does_608 : decode cL_does 608 = .ok (.iload 5, 2) := by decide +kernel
theorem dL_does_610 : decode cL_does 610 = .ok (.iconst 2, 1) := by decide +kernel
theorem dL_does_611 : decode cL_does 611 = .ok (.invokevirtual 30, 3) := by decide +kernel
theorem dL_does_614 : decode cL_does 614 = .ok (.ifCond .ne 7, 3) := by decide +kernel
theorem dL_does_617 : decode cL_does 617 = .ok (.iconst 1, 1) := by decide +kernel
theorem dL_does_618 : decode cL_does 618 = .ok (.goto 4, 3) := by decide +kernel
theorem dL_does_621 : decode cL_does 621 = .ok (.iconst 0, 1) := by decide +kernel
theorem dL_does_622 : decode cL_does 622 = .ok (.istore 20, 2) := by decide +kernel
theorem dL_does_624 : decode cL_does 624 = .ok (.aload_n 0, 1) := by decide +kernel
theorem dL_does_625 : decode cL_does 625 = .ok (.iconst 5, 1) := by decide +kernel
theorem dL_does_626 : decode cL_does 626 = .ok (.invokevirtual 40, 3) := by decide +kernel
theorem dL_does_629 : decode cL_does 629 = .ok (.istore 21, 2) := by decide +kernel
theorem dL_does_631 : decode cL_does 631 = .ok (.iload_n 2, 1) := by decide +kernel
theorem dL_does_632 : decode cL_does 632 = .ok (.iconst 3, 1) := by decide +kernel
theorem dL_does_633 : decode cL_does 633 = .ok (.iand, 1) := by decide +kernel
theorem dL_does_634 : decode cL_does 634 = .ok (.ifCond .ne 80, 3) := by decide +kernel
theorem dL_does_637 : decode cL_does 637 = .ok (.aload_n 0, 1) := by decide +kernel
theorem dL_does_638 : decode cL_does 638 = .ok (.iload 4, 2) := by decide +kernel
theorem dL_does_640 : decode cL_does 640 = .ok (.iload 5, 2) := by decide +kernel
theorem dL_does_642 : decode cL_does 642 = .ok (.invokevirtual 82, 3) := by decide +kernel
theorem dL_does_645 : decode cL_does 645 = .ok (.iload 20, 2) := by decide +kernel
theorem dL_does_647 : decode cL_does 647 = .ok (.ifCond .eq 8, 3) := by decide +kernel
theorem dL_does_650 : decode cL_does 650 = .ok (.bipush (-5), 2) := by decide +kernel
theorem dL_does_652 : decode cL_does 652 = .ok (.goto 5, 3) := by decide +kernel
theorem dL_does_655 : decode cL_does 655 = .ok (.iload 19, 2) := by decide +kernel
theorem dL_does_657 : decode cL_does 657 = .ok (.if_icmp .ne 61, 3) := by decide +kernel
theorem dL_does_660 : decode cL_does 660 = .ok (.aload_n 0, 1) := by decide +kernel
theorem dL_does_661 : decode cL_does 661 = .ok (.iconst 5, 1) := by decide +kernel
theorem dL_does_662 : decode cL_does 662 = .ok (.invokevirtual 40, 3) := by decide +kernel
theorem dL_does_665 : decode cL_does 665 = .ok (.iload 20, 2) := by decide +kernel
theorem dL_does_667 : decode cL_does 667 = .ok (.ifCond .eq 8, 3) := by decide +kernel
theorem dL_does_670 : decode cL_does 670 = .ok (.iload 21, 2) := by decide +kernel
theorem dL_does_672 : decode cL_does 672 = .ok (.goto 7, 3) := by decide +kernel
theorem dL_does_675 : decode cL_does 675 = .ok (.iload 21, 2) := by decide +kernel
theorem dL_does_677 : decode cL_does 677 = .ok (.iconst 1, 1) := by decide +kernel
theorem dL_does_678 : decode cL_does 678 = .ok (.iadd, 1) := by decide +kernel
theorem dL_does_679 : decode cL_does 679 = .ok (.if_icmp .ne 39, 3) := by decide +kernel
theorem dL_does_682 : decode cL_does 682 = .ok (.aload_n 0, 1) := by decide +kernel
theorem dL_does_683 : decode cL_does 683 = .ok (.iload 4, 2) := by decide +kernel
theorem dL_does_685 : decode cL_does 685 = .ok (.iload 5, 2) := by decide +kernel
theorem dL_does_687 : decode cL_does 687 = .ok (.iconst 1, 1) := by decide +kernel
theorem dL_does_688 : decode cL_does 688 = .ok (.invokevirtual 30, 3) := by decide +kernel
theorem dL_does_691 : decode cL_does 691 = .ok (.aload_n 0, 1) := by decide +kernel
theorem dL_does_692 : decode cL_does 692 = .ok (.iload 4, 2) := by decide +kernel
theorem dL_does_694 : decode cL_does 694 = .ok (.iload 5, 2) := by decide +kernel
theorem dL_does_696 : decode cL_does 696 = .ok (.iconst 0, 1) := by decide +kernel
theorem dL_does_697 : decode cL_does 697 = .ok (.invokevirtual 30, 3) := by decide +kernel
theorem dL_does_700 : decode cL_does 700 = .ok (.iadd, 1) := by decide +kernel
theorem dL_does_701 : decode cL_does 701 = .ok (.aload_n 0, 1) := by decide +kernel
theorem dL_does_702 : decode cL_does 702 = .ok (.iload 4, 2) := by decide +kernel
theorem dL_does_704 : decode cL_does 704 = .ok (.iload 5, 2) := by decide +kernel
theorem dL_does_706 : decode cL_does 706 = .ok (.iconst 3, 1) := by decide +kernel
theorem dL_does_707 : decode cL_does 707 = .ok (.invokevirtual 30, 3) := by decide +kernel
theorem dL_does_710 : decode cL_does 710 = .ok (.iadd, 1) := by decide +kernel
theorem dL_does_711 : decode cL_does 711 = .ok (.ifCond .ne 7, 3) := by decide +kernel
theorem dL_does_714 : decode cL_does 714 = .ok (.iconst 1, 1) := by decide +kernel
theorem dL_does_715 : decode cL_does 715 = .ok (.goto 4, 3) := by decide +kernel
theorem dL_does_718 : decode cL_does 718 = .ok (.iconst 0, 1) := by decide +kernel
theorem dL_does_719 : decode cL_does 719 = .ok (.ireturn, 1) := by decide +kernel
theorem dL_does_720 : decode cL_does 720 = .ok (.aload_n 0, 1) := by decide +kernel
theorem dL_does_721 : decode cL_does 721 = .ok (.iload 4, 2) := by decide +kernel
theorem dL_does_723 : decode cL_does 723 = .ok (.iload 5, 2) := by decide +kernel
theorem dL_does_725 : decode cL_does 725 = .ok (.invokestatic 85, 3) := by decide +kernel
theorem dL_does_728 : decode cL_does 728 = .ok (.ifCond .eq 28, 3) := by decide +kernel
theorem dL_does_731 : decode cL_does 731 = .ok (.aload_n 0, 1) := by decide +kernel
theorem dL_does_732 : decode cL_does 732 = .ok (.iload 4, 2) := by decide +kernel
theorem dL_does_734 : decode cL_does 734 = .ok (.iload_n 2, 1) := by decide +kernel
theorem dL_does_735 : decode cL_does 735 = .ok (.iconst 3, 1) := by decide +kernel
theorem dL_does_736 : decode cL_does 736 = .ok (.iand, 1) := by decide +kernel
theorem dL_does_737 : decode cL_does 737 = .ok (.iload 5, 2) := by decide +kernel
theorem dL_does_739 : decode cL_does 739 = .ok (.iload_n 2, 1) := by decide +kernel
theorem dL_does_740 : decode cL_does 740 = .ok (.iconst 2, 1) := by decide +kernel
theorem dL_does_741 : decode cL_does 741 = .ok (.ishr, 1) := by decide +kernel
theorem dL_does_742 : decode cL_does 742 = .ok (.iconst 3, 1) := by decide +kernel
theorem dL_does_743 : decode cL_does 743 = .ok (.invokestatic 60, 3) := by decide +kernel
theorem dL_does_746 : decode cL_does 746 = .ok (.invokestatic 88, 3) := by decide +kernel
theorem dL_does_749 : decode cL_does 749 = .ok (.ifCond .eq 7, 3) := by decide +kernel
theorem dL_does_752 : decode cL_does 752 = .ok (.iconst 1, 1) := by decide +kernel
theorem dL_does_753 : decode cL_does 753 = .ok (.goto 4, 3) := by decide +kernel
theorem dL_does_756 : decode cL_does 756 = .ok (.iconst 0, 1) := by decide +kernel
theorem dL_does_757 : decode cL_does 757 = .ok (.ireturn, 1) := by decide +kernel
theorem dL_does_758 : decode cL_does 758 = .ok (.aload_n 0, 1) := by decide +kernel
theorem dL_does_759 : decode cL_does 759 = .ok (.iload 4, 2) := by decide +kernel
theorem dL_does_761 : decode cL_does 761 = .ok (.iload 5, 2) := by decide +kernel
theorem dL_does_763 : decode cL_does 763 = .ok (.iload 6, 2) := by decide +kernel
theorem dL_does_765 : decode cL_does 765 = .ok (.iload 7, 2) := by decide +kernel
theorem dL_does_767 : decode cL_does 767 = .ok (.iload 8, 2) := by decide +kernel
theorem dL_does_769 : decode cL_does 769 = .ok (.invokevirtual 92, 3) := by decide +kernel
theorem dL_does_772 : decode cL_does 772 = .ok (.iload 12, 2) := by decide +kernel
theorem dL_does_774 : decode cL_does 774 = .ok (.ifCond .eq 11, 3) := by decide +kernel
theorem dL_does_777 : decode cL_does 777 = .ok (.iload 9, 2) := by decide +kernel
theorem dL_does_779 : decode cL_does 779 = .ok (.iload 8, 2) := by decide +kernel
theorem dL_does_781 : decode cL_does 781 = .ok (.iadd, 1) := by decide +kernel
theorem dL_does_782 : decode cL_does 782 = .ok (.goto 5, 3) := by decide +kernel
theorem dL_does_785 : decode cL_does 785 = .ok (.bipush (-3), 2) := by decide +kernel
theorem dL_does_787 : decode cL_does 787 = .ok (.if_icmp .ne 37, 3) := by decide +kernel
theorem dL_does_790 : decode cL_does 790 = .ok (.aload_n 0, 1) := by decide +kernel
theorem dL_does_791 : decode cL_does 791 = .ok (.iload 4, 2) := by decide +kernel
theorem dL_does_793 : decode cL_does 793 = .ok (.iload 5, 2) := by decide +kernel
theorem dL_does_795 : decode cL_does 795 = .ok (.iload 6, 2) := by decide +kernel
theorem dL_does_797 : decode cL_does 797 = .ok (.iload 10, 2) := by decide +kernel
theorem dL_does_799 : decode cL_does 799 = .ok (.invokevirtual 14, 3) := by decide +kernel
theorem dL_does_802 : decode cL_does 802 = .ok (.iload 12, 2) := by decide +kernel
theorem dL_does_804 : decode cL_does 804 = .ok (.ifCond .eq 11, 3) := by decide +kernel
theorem dL_does_807 : decode cL_does 807 = .ok (.iload 11, 2) := by decide +kernel
theorem dL_does_809 : decode cL_does 809 = .ok (.iload 8, 2) := by decide +kernel
theorem dL_does_811 : decode cL_does 811 = .ok (.iadd, 1) := by decide +kernel
theorem dL_does_812 : decode cL_does 812 = .ok (.goto 5, 3) := by decide +kernel
theorem dL_does_815 : decode cL_does 815 = .ok (.iload 11, 2) := by decide +kernel
theorem dL_does_817 : decode cL_does 817 = .ok (.if_icmp .ne 7, 3) := by decide +kernel
theorem dL_does_820 : decode cL_does 820 = .ok (.iconst 1, 1) := by decide +kernel
theorem dL_does_821 : decode cL_does 821 = .ok (.goto 4, 3) := by decide +kernel
theorem dL_does_824 : decode cL_does 824 = .ok (.iconst 0, 1) := by decide +kernel
theorem dL_does_825 : decode cL_does 825 = .ok (.ireturn, 1) := by decide +kernel
