set_option maxRecDepth 20000 in
theorem ggL_law_X6_init : GoodIn wsL_law wsX6_init := goodIn_r _ [6, 7, 8, 9, 10, 11, 12, 13, 14, 15, 16, 17, 3, 18, 19, 20, 21, 22, 23, 24, 25, 26, 27, 28, 29, 30, 31, 32, 33, 34, 35, 36, 37, 38, 39, 40, 41, 42, 43, 44, 45, 46, 47, 48, 49, 50, 51, 52, 53, 54, 55, 56, 57, 58, 59, 60, 61, 62, 63, 64, 65, 66, 67, 68, 69, 70, 71, 72, 73, 74, 75, 76, 77, 78, 79, 80, 81, 82, 83, 84, 85, 86, 87, 88, 542, 543, 533, 534, 535, 536, 537, 538, 539, 540, 541, 544, 545, 546, 547, 548, 549, 550, 551, 552, 553, 554, 555, 556, 557, 558, 559, 560, 561, 562, 563] (by decide +kernel) (by decide +kernel)
set_option maxRecDepth 20000 in
theorem gL_law_X6_init : GoodIn wsL_law (wsX6_init) := ggL_law_X6_init
set_option maxRecDepth 20000 in
theorem meml_areAll : Cond.code yL_areAll cL_areAll 10 (some .boolean) ∈ wsL_law := List.mem_of_getElem? (i := 92) rfl
set_option maxRecDepth 20000 in
theorem ggc_wsL_areAll_r1 : GoodIn wsL_law wsL_areAll_r1 := goodIn_r _ [93, 94, 95, 2, 96, 13, 34, 97, 98, 99, 100, 101, 102, 103, 104, 105, 106, 107, 108, 109, 110, 12, 111, 39] (by decide +kernel) (by decide +kernel)
set_option maxRecDepth 20000 in
theorem ggc_wsL_areAll_r2 : GoodIn wsL_law wsL_areAll_r2 := goodIn_r _ [112, 113, 114, 115, 116, 117, 118, 119, 120, 121, 122, 123, 124, 125, 126, 127, 128, 129, 130, 131, 132, 133, 134, 33] (by decide +kernel) (by decide +kernel)
set_option maxRecDepth 20000 in
theorem ggc_wsL_areAll_r3 : GoodIn wsL_law wsL_areAll_r3 := goodIn_r _ [135, 84, 85, 86, 87, 136, 137, 138, 139, 28, 140, 75, 78, 74, 141, 142, 143, 144, 145, 146, 147, 148, 149, 150] (by decide +kernel) (by decide +kernel)
set_option maxRecDepth 20000 in
theorem ggc_wsL_areAll_r4 : GoodIn wsL_law wsL_areAll_r4 := goodIn_r _ [151, 152, 153, 154, 155, 156, 157, 158, 159, 160, 161, 162, 163, 164, 165, 166, 167, 168, 169, 170, 171, 172, 173, 174] (by decide +kernel) (by decide +kernel)
set_option maxRecDepth 20000 in
theorem ggc_wsL_areAll_r5 : GoodIn wsL_law wsL_areAll_r5 := goodIn_r _ [175, 176, 177, 178, 179, 180, 181, 182, 183, 184, 185, 186, 187, 188, 189, 190, 191, 192, 193, 194, 195, 196, 197, 198] (by decide +kernel) (by decide +kernel)
set_option maxRecDepth 20000 in
theorem ggc_wsL_areAll_r6 : GoodIn wsL_law wsL_areAll_r6 := goodIn_r _ [199, 200, 201, 202, 203, 204, 205, 206, 207, 208, 209, 210, 211, 212, 213, 214, 215, 216, 217, 218, 219, 220, 221, 222] (by decide +kernel) (by decide +kernel)
set_option maxRecDepth 20000 in
theorem ggc_wsL_areAll_r7 : GoodIn wsL_law wsL_areAll_r7 := goodIn_r _ [223, 224, 225, 226, 227, 228, 229, 230, 231, 232, 233, 234, 235, 236, 237, 238, 239, 240, 241, 242, 243, 244, 245, 246] (by decide +kernel) (by decide +kernel)
set_option maxRecDepth 20000 in
theorem ggc_wsL_areAll_r8 : GoodIn wsL_law wsL_areAll_r8 := goodIn_r _ [17, 247, 25, 248, 249, 250, 251, 252, 253, 254, 255, 256, 257, 258, 259, 260, 261, 262, 263, 264, 265, 266, 267, 268] (by decide +kernel) (by decide +kernel)
set_option maxRecDepth 20000 in
theorem ggc_wsL_areAll_r9 : GoodIn wsL_law wsL_areAll_r9 := goodIn_r _ [269, 270, 271, 272, 273, 274, 275, 276, 277, 278, 55, 279, 69, 280, 281, 282, 283] (by decide +kernel) (by decide +kernel)
theorem ggL_law_L_areAll : GoodIn wsL_law wsL_areAll := goodIn_app (a := [Cond.code yL_areAll cL_areAll 10 (some .boolean)]) (b := ((wsL_areAll_r1 ++ (wsL_areAll_r2 ++ (wsL_areAll_r3 ++ (wsL_areAll_r4 ++ (wsL_areAll_r5 ++ (wsL_areAll_r6 ++ (wsL_areAll_r7 ++ (wsL_areAll_r8 ++ wsL_areAll_r9)))))))) ++ wsX60 ++ wsX10 ++ wsX00 ++ wsX40 ++ wsX20 ++ wsX50)) (goodIn_sub (fun w hw => by rw [List.mem_singleton.mp hw]; exact meml_areAll) (by decide +kernel)) (goodIn_app (goodIn_app (goodIn_app (goodIn_app (goodIn_app (goodIn_app (goodIn_app ggc_wsL_areAll_r1 (goodIn_app ggc_wsL_areAll_r2 (goodIn_app ggc_wsL_areAll_r3 (goodIn_app ggc_wsL_areAll_r4 (goodIn_app ggc_wsL_areAll_r5 (goodIn_app ggc_wsL_areAll_r6 (goodIn_app ggc_wsL_areAll_r7 (goodIn_app ggc_wsL_areAll_r8 ggc_wsL_areAll_r9)))))))) (goodIn_sub inlX6 (by decide +kernel))) (goodIn_sub inlX1 (by decide +kernel))) (goodIn_sub inlX0 (by decide +kernel))) (goodIn_sub inlX4 (by decide +kernel))) (goodIn_sub inlX2 (by decide +kernel))) (goodIn_sub inlX5 (by decide +kernel)))
set_option maxRecDepth 20000 in
theorem gL_law_L_areAll : GoodIn wsL_law (va_wsS RL 97 yL_areAll wsL_areAll) := goodIn_app (goodIn_of _ (by decide +kernel)) ggL_law_L_areAll
set_option maxRecDepth 20000 in
theorem ggL_law_X6_undo : GoodIn wsL_law wsX6_undo := goodIn_r _ [287, 17, 247, 13, 288, 289, 290, 16, 291, 48, 46, 292, 293, 294, 295, 47, 296, 297, 298, 12, 299, 39, 300, 301, 302, 303, 533, 534, 535, 536, 537, 538, 539, 540, 541, 544, 545, 546, 542, 543] (by decide +kernel) (by decide +kernel)
set_option maxRecDepth 20000 in
theorem gL_law_X6_undo : GoodIn wsL_law (wsV RL 101 RX6 yX6_undo wsX6_undo) := goodIn_app (goodIn_of _ (by decide +kernel)) ggL_law_X6_undo
set_option maxRecDepth 20000 in
theorem ggL_law_X6_restore : GoodIn wsL_law wsX6_restore := goodIn_r _ [307, 19, 17, 13, 18, 308, 309, 310, 16, 311, 48, 47, 46, 292, 293, 294, 295, 312, 313, 314, 12, 315, 39, 300, 301, 302, 303, 316, 297, 298, 299, 248, 249, 250, 251, 252, 253, 254, 255, 533, 534, 535, 536, 537, 538, 539, 540, 541, 544, 545, 546, 542, 543] (by decide +kernel) (by decide +kernel)
set_option maxRecDepth 20000 in
theorem gL_law_X6_restore : GoodIn wsL_law (wsV RL 104 RX6 yX6_restore wsX6_restore) := goodIn_app (goodIn_of _ (by decide +kernel)) ggL_law_X6_restore
set_option maxRecDepth 20000 in
theorem ggL_law_X6_logAll : GoodIn wsL_law wsX6_logAll := goodIn_r _ [320, 23, 321, 13, 17, 322, 323, 324, 325, 326, 22, 327, 62, 61, 56, 328, 329, 330, 331, 57, 332, 333, 334, 335, 336, 337, 338, 55, 339, 69, 68, 103, 2, 104, 340, 341, 342, 343, 344, 345, 346, 347, 106, 107, 348, 349, 350, 351, 58, 59, 352, 353, 354, 355, 60, 356, 277, 278, 279, 357, 358, 359, 360, 361, 362, 363, 12, 364, 184, 185, 186, 187, 188, 146, 147, 148, 39, 189, 190, 191, 192, 308, 309, 310, 16, 311, 48, 47, 46, 292, 293, 294, 295, 312, 313, 314, 315, 300, 301, 302, 303, 365, 366, 367, 368, 369, 370, 371, 372, 373, 374, 375, 376, 213, 214, 215, 533, 534, 535, 536, 537, 538, 539, 540, 541, 547, 548, 549, 550, 551, 552, 553, 562, 563, 542, 543, 544, 545, 546] (by decide +kernel) (by decide +kernel)
set_option maxRecDepth 20000 in
theorem gL_law_X6_logAll : GoodIn wsL_law (wsV RL 107 RX6 yX6_logAll wsX6_logAll) := goodIn_app (goodIn_of _ (by decide +kernel)) ggL_law_X6_logAll
set_option maxRecDepth 20000 in
theorem ggL_law_X6_reason : GoodIn wsL_law wsX6_reason := goodIn_r _ [236, 99, 100, 2, 101, 102, 103, 104, 105, 106, 107, 237, 238, 239, 240, 13, 34, 241, 98, 197, 185, 186, 12, 187, 188, 146, 147, 148, 39, 189, 190, 191, 192, 132, 133, 134, 33, 135, 84, 85, 86, 87, 136, 137, 138, 139, 28, 140, 75, 78, 74, 141, 142, 143, 144, 145, 149, 150, 151, 152, 153, 154, 155, 156, 157, 158, 159, 160, 161, 162, 163, 164, 165, 166, 167, 168, 169, 170, 171, 121, 122, 123, 172, 173, 174, 175, 176, 177, 130, 178, 179, 109, 110, 111, 180, 181, 182, 183, 184, 112, 113, 114, 115, 242, 533, 534, 535, 536, 537, 538, 539, 540, 541, 558, 559, 560, 561, 542, 543, 554, 555, 556, 557] (by decide +kernel) (by decide +kernel)
set_option maxRecDepth 20000 in
theorem gL_law_X6_reason : GoodIn wsL_law (wsV RL 36 RX6 yX6_reason wsX6_reason) := goodIn_app (goodIn_of _ (by decide +kernel)) ggL_law_X6_reason
set_option maxRecDepth 20000 in
theorem ggL_law_X6_engrave : GoodIn wsL_law wsX6_engrave := goodIn_r _ [380, 17, 13, 34, 381, 98, 241, 99, 100, 2, 101, 102, 103, 104, 105, 106, 107, 237, 238, 239, 240, 197, 185, 186, 12, 187, 188, 146, 147, 148, 39, 189, 190, 191, 192, 132, 133, 134, 33, 135, 84, 85, 86, 87, 136, 137, 138, 139, 28, 140, 75, 78, 74, 141, 142, 143, 144, 145, 149, 150, 151, 152, 153, 154, 155, 156, 157, 158, 159, 160, 161, 162, 163, 164, 165, 166, 167, 168, 169, 170, 171, 121, 122, 123, 172, 173, 174, 175, 176, 177, 130, 178, 179, 109, 110, 111, 180, 181, 182, 183, 184, 112, 113, 114, 115, 242, 308, 309, 310, 16, 311, 48, 47, 46, 292, 293, 294, 295, 312, 313, 314, 315, 300, 301, 302, 303, 382, 383, 384, 385, 386, 387, 533, 534, 535, 536, 537, 538, 539, 540, 541, 558, 559, 560, 561, 542, 543, 554, 555, 556, 557, 544, 545, 546] (by decide +kernel) (by decide +kernel)
set_option maxRecDepth 20000 in
theorem gL_law_X6_engrave : GoodIn wsL_law (wsV RL 48 RX6 yX6_engrave wsX6_engrave) := goodIn_app (goodIn_of _ (by decide +kernel)) ggL_law_X6_engrave
set_option maxRecDepth 20000 in
theorem ggL_law_L_cell : GoodIn wsL_law wsL_cell := goodIn_r _ [390] (by decide +kernel) (by decide +kernel)
set_option maxRecDepth 20000 in
theorem gL_law_L_cell : GoodIn wsL_law (va_wsS RL 110 yL_cell wsL_cell) := goodIn_app (goodIn_of _ (by decide +kernel)) ggL_law_L_cell
set_option maxRecDepth 20000 in
theorem meml_does : Cond.code yL_does cL_does 22 (some .boolean) ∈ wsL_law := List.mem_of_getElem? (i := 393) rfl
set_option maxRecDepth 20000 in
theorem ggc_wsL_does_r1 : GoodIn wsL_law wsL_does_r1 := goodIn_r _ [394, 395, 91, 396, 397, 193, 194, 195, 2, 196, 13, 99, 100, 101, 102, 103, 104, 105, 106, 107, 197, 185, 186, 12] (by decide +kernel) (by decide +kernel)
set_option maxRecDepth 20000 in
theorem ggc_wsL_does_r2 : GoodIn wsL_law wsL_does_r2 := goodIn_r _ [187, 188, 146, 147, 148, 39, 189, 190, 191, 192, 198, 199, 200, 181, 182, 183, 184, 201, 202, 203, 204, 205, 206, 207] (by decide +kernel) (by decide +kernel)
set_option maxRecDepth 20000 in
theorem ggc_wsL_does_r3 : GoodIn wsL_law wsL_does_r3 := goodIn_r _ [208, 209, 210, 211, 212, 213, 214, 215, 216, 217, 218, 219, 220, 221, 222, 223, 224, 156, 157, 158, 159, 160, 161, 162] (by decide +kernel) (by decide +kernel)
set_option maxRecDepth 20000 in
theorem ggc_wsL_does_r4 : GoodIn wsL_law wsL_does_r4 := goodIn_r _ [163, 164, 165, 166, 225, 226, 227, 228, 229, 230, 231, 232, 243, 244, 245, 246, 17, 247, 25, 248, 249, 250, 251, 252] (by decide +kernel) (by decide +kernel)
set_option maxRecDepth 20000 in
theorem ggc_wsL_does_r5 : GoodIn wsL_law wsL_does_r5 := goodIn_r _ [253, 254, 255, 256, 257, 258, 259, 260, 261, 262, 263, 34, 241, 132, 133, 134, 33, 135, 84, 85, 86, 87, 136, 137] (by decide +kernel) (by decide +kernel)
set_option maxRecDepth 20000 in
theorem ggc_wsL_does_r6 : GoodIn wsL_law wsL_does_r6 := goodIn_r _ [138, 139, 28, 140, 75, 78, 74, 141, 142, 143, 144, 145, 149, 150, 151, 152, 153, 154, 155, 167, 168, 169, 170, 171] (by decide +kernel) (by decide +kernel)
set_option maxRecDepth 20000 in
theorem ggc_wsL_does_r7 : GoodIn wsL_law wsL_does_r7 := goodIn_r _ [121, 122, 123, 172, 173, 174, 175, 176, 177, 130, 178, 179, 109, 110, 111, 180, 264, 265, 266, 267, 268, 269, 270, 271] (by decide +kernel) (by decide +kernel)
set_option maxRecDepth 20000 in
theorem ggc_wsL_does_r8 : GoodIn wsL_law wsL_does_r8 := goodIn_r _ [272, 273, 274, 275, 242, 276, 277, 278, 55, 279, 69, 398, 399, 400, 401, 402, 403, 404, 405, 406, 407, 408, 409, 410] (by decide +kernel) (by decide +kernel)
set_option maxRecDepth 20000 in
theorem ggc_wsL_does_r9 : GoodIn wsL_law wsL_does_r9 := goodIn_r _ [411, 412, 361, 362, 363, 364, 308, 309, 310, 16, 311, 48, 47, 46, 292, 293, 294, 295, 312, 313, 314, 315, 300, 301] (by decide +kernel) (by decide +kernel)
set_option maxRecDepth 20000 in
theorem ggc_wsL_does_r10 : GoodIn wsL_law wsL_does_r10 := goodIn_r _ [302, 303, 413, 370, 371, 372, 414, 415, 416, 417, 418, 419, 374, 375, 376, 420, 421, 422, 423, 424, 425, 426, 427, 428] (by decide +kernel) (by decide +kernel)
set_option maxRecDepth 20000 in
theorem ggc_wsL_does_r11 : GoodIn wsL_law wsL_does_r11 := goodIn_r _ [429, 430, 40, 431, 432, 433, 434, 435, 436, 437, 438, 439, 440, 441, 442, 443, 444, 445, 446, 447, 448, 233, 234, 235] (by decide +kernel) (by decide +kernel)
set_option maxRecDepth 20000 in
theorem ggc_wsL_does_r12 : GoodIn wsL_law wsL_does_r12 := goodIn_r _ [236, 237, 238, 239, 240, 98, 112, 113, 114, 115, 93, 94, 95, 96, 97, 108, 116, 117, 118, 119, 120, 124, 125, 126] (by decide +kernel) (by decide +kernel)
set_option maxRecDepth 20000 in
theorem ggc_wsL_does_r13 : GoodIn wsL_law wsL_does_r13 := goodIn_r _ [127, 128, 129, 131, 449, 450, 451, 452, 453, 454, 455, 456, 457, 458, 459, 460, 461, 29, 462, 463, 377, 378, 379, 380] (by decide +kernel) (by decide +kernel)
set_option maxRecDepth 20000 in
theorem ggc_wsL_does_r14 : GoodIn wsL_law wsL_does_r14 := goodIn_r _ [381, 382, 383, 384, 385, 386, 387, 464, 465, 466, 467, 468, 469, 470, 471, 472, 473, 474, 475, 476, 477, 478, 479, 480] (by decide +kernel) (by decide +kernel)
set_option maxRecDepth 20000 in
theorem ggc_wsL_does_r15 : GoodIn wsL_law wsL_does_r15 := goodIn_r _ [481, 482, 483, 484, 485, 486, 487, 488, 489, 490, 491, 492, 493, 494, 495, 496, 497, 498, 499, 500, 501, 502, 503, 504] (by decide +kernel) (by decide +kernel)
set_option maxRecDepth 20000 in
theorem ggc_wsL_does_r16 : GoodIn wsL_law wsL_does_r16 := goodIn_r _ [505, 30, 506, 507, 508, 509, 510, 511, 512, 513, 514] (by decide +kernel) (by decide +kernel)
theorem ggL_law_L_does : GoodIn wsL_law wsL_does := goodIn_app (a := [Cond.code yL_does cL_does 22 (some .boolean)]) (b := ((wsL_does_r1 ++ (wsL_does_r2 ++ (wsL_does_r3 ++ (wsL_does_r4 ++ (wsL_does_r5 ++ (wsL_does_r6 ++ (wsL_does_r7 ++ (wsL_does_r8 ++ (wsL_does_r9 ++ (wsL_does_r10 ++ (wsL_does_r11 ++ (wsL_does_r12 ++ (wsL_does_r13 ++ (wsL_does_r14 ++ (wsL_does_r15 ++ wsL_does_r16))))))))))))))) ++ wsX60 ++ wsX00 ++ wsX20 ++ wsX10 ++ wsX40 ++ wsX50)) (goodIn_sub (fun w hw => by rw [List.mem_singleton.mp hw]; exact meml_does) (by decide +kernel)) (goodIn_app (goodIn_app (goodIn_app (goodIn_app (goodIn_app (goodIn_app (goodIn_app ggc_wsL_does_r1 (goodIn_app ggc_wsL_does_r2 (goodIn_app ggc_wsL_does_r3 (goodIn_app ggc_wsL_does_r4 (goodIn_app ggc_wsL_does_r5 (goodIn_app ggc_wsL_does_r6 (goodIn_app ggc_wsL_does_r7 (goodIn_app ggc_wsL_does_r8 (goodIn_app ggc_wsL_does_r9 (goodIn_app ggc_wsL_does_r10 (goodIn_app ggc_wsL_does_r11 (goodIn_app ggc_wsL_does_r12 (goodIn_app ggc_wsL_does_r13 (goodIn_app ggc_wsL_does_r14 (goodIn_app ggc_wsL_does_r15 ggc_wsL_does_r16))))))))))))))) (goodIn_sub inlX6 (by decide +kernel))) (goodIn_sub inlX0 (by decide +kernel))) (goodIn_sub inlX2 (by decide +kernel))) (goodIn_sub inlX1 (by decide +kernel))) (goodIn_sub inlX4 (by decide +kernel))) (goodIn_sub inlX5 (by decide +kernel)))
set_option maxRecDepth 20000 in
theorem gL_law_L_does : GoodIn wsL_law (va_wsS RL 114 yL_does wsL_does) := goodIn_app (goodIn_of _ (by decide +kernel)) ggL_law_L_does
set_option maxRecDepth 20000 in
theorem meml_areShares : Cond.code yL_areShares cL_areShares 18 (some .boolean) ∈ wsL_law := List.mem_of_getElem? (i := 517) rfl
set_option maxRecDepth 20000 in
theorem ggc_wsL_areShares_r1 : GoodIn wsL_law wsL_areShares_r1 := goodIn_r _ [193, 194, 195, 2, 196, 13, 99, 100, 101, 102, 103, 104, 105, 106, 107, 197, 185, 186, 12, 187, 188, 146, 147, 148] (by decide +kernel) (by decide +kernel)
set_option maxRecDepth 20000 in
theorem ggc_wsL_areShares_r2 : GoodIn wsL_law wsL_areShares_r2 := goodIn_r _ [39, 189, 190, 191, 192, 198, 199, 200, 181, 182, 183, 184, 201, 202, 203, 204, 205, 206, 207, 208, 209, 210, 211, 212] (by decide +kernel) (by decide +kernel)
set_option maxRecDepth 20000 in
theorem ggc_wsL_areShares_r3 : GoodIn wsL_law wsL_areShares_r3 := goodIn_r _ [213, 214, 215, 216, 217, 218, 219, 220, 221, 222, 223, 224, 156, 157, 158, 159, 160, 161, 162, 163, 164, 165, 166, 225] (by decide +kernel) (by decide +kernel)
set_option maxRecDepth 20000 in
theorem ggc_wsL_areShares_r4 : GoodIn wsL_law wsL_areShares_r4 := goodIn_r _ [226, 227, 228, 229, 230, 231, 232, 398, 399, 400, 401, 402, 403, 404, 405, 406, 407, 408, 458, 459, 460, 461, 29, 462] (by decide +kernel) (by decide +kernel)
set_option maxRecDepth 20000 in
theorem ggc_wsL_areShares_r5 : GoodIn wsL_law wsL_areShares_r5 := goodIn_r _ [453, 454, 455, 463, 138, 139, 28, 140, 75, 78, 74, 141, 142, 143, 144, 145, 149, 150, 151, 152, 153, 154, 155, 167] (by decide +kernel) (by decide +kernel)
set_option maxRecDepth 20000 in
theorem ggc_wsL_areShares_r6 : GoodIn wsL_law wsL_areShares_r6 := goodIn_r _ [168, 169, 170, 456, 518, 519, 520, 521, 522, 523, 524, 525, 77, 526, 527, 528, 529] (by decide +kernel) (by decide +kernel)
theorem ggL_law_L_areShares : GoodIn wsL_law wsL_areShares := goodIn_app (a := [Cond.code yL_areShares cL_areShares 18 (some .boolean)]) (b := ((wsL_areShares_r1 ++ (wsL_areShares_r2 ++ (wsL_areShares_r3 ++ (wsL_areShares_r4 ++ (wsL_areShares_r5 ++ wsL_areShares_r6))))) ++ wsX60 ++ wsX00 ++ wsX40)) (goodIn_sub (fun w hw => by rw [List.mem_singleton.mp hw]; exact meml_areShares) (by decide +kernel)) (goodIn_app (goodIn_app (goodIn_app (goodIn_app ggc_wsL_areShares_r1 (goodIn_app ggc_wsL_areShares_r2 (goodIn_app ggc_wsL_areShares_r3 (goodIn_app ggc_wsL_areShares_r4 (goodIn_app ggc_wsL_areShares_r5 ggc_wsL_areShares_r6))))) (goodIn_sub inlX6 (by decide +kernel))) (goodIn_sub inlX0 (by decide +kernel))) (goodIn_sub inlX4 (by decide +kernel)))
set_option maxRecDepth 20000 in
theorem gL_law_L_areShares : GoodIn wsL_law (va_wsS RL 118 yL_areShares wsL_areShares) := goodIn_app (goodIn_of _ (by decide +kernel)) ggL_law_L_areShares
set_option maxRecDepth 20000 in
theorem meml_isPlate : Cond.code yL_isPlate cL_isPlate 11 (some .boolean) ∈ wsL_law := List.mem_of_getElem? (i := 532) rfl
set_option maxRecDepth 20000 in
theorem ggc_wsL_isPlate_r1 : GoodIn wsL_law wsL_isPlate_r1 := goodIn_r _ [93, 94, 95, 2, 96, 13, 34, 97, 98, 99, 100, 101, 102, 103, 104, 105, 106, 107, 108, 109, 110, 12, 111, 39] (by decide +kernel) (by decide +kernel)
set_option maxRecDepth 20000 in
theorem ggc_wsL_isPlate_r2 : GoodIn wsL_law wsL_isPlate_r2 := goodIn_r _ [112, 113, 114, 115, 116, 117, 118, 119, 120, 121, 122, 123, 124, 125, 126, 127, 128, 129, 130, 131, 132, 133, 134, 33] (by decide +kernel) (by decide +kernel)
set_option maxRecDepth 20000 in
theorem ggc_wsL_isPlate_r3 : GoodIn wsL_law wsL_isPlate_r3 := goodIn_r _ [135, 84, 85, 86, 87, 136, 137, 138, 139, 28, 140, 75, 78, 74, 141, 142, 143, 144, 145, 146, 147, 148, 149, 150] (by decide +kernel) (by decide +kernel)
set_option maxRecDepth 20000 in
theorem ggc_wsL_isPlate_r4 : GoodIn wsL_law wsL_isPlate_r4 := goodIn_r _ [151, 152, 153, 154, 155, 156, 157, 158, 159, 160, 161, 162, 163, 164, 165, 166, 167, 168, 169, 170, 171, 172, 173, 174] (by decide +kernel) (by decide +kernel)
set_option maxRecDepth 20000 in
theorem ggc_wsL_isPlate_r5 : GoodIn wsL_law wsL_isPlate_r5 := goodIn_r _ [175, 176, 177, 178, 179, 180, 181, 182, 183, 184, 185, 186, 187, 188, 189, 190, 191, 192, 449, 450, 451, 452, 453, 454] (by decide +kernel) (by decide +kernel)
set_option maxRecDepth 20000 in
theorem ggc_wsL_isPlate_r6 : GoodIn wsL_law wsL_isPlate_r6 := goodIn_r _ [455, 402, 403, 404, 405, 406, 407, 456, 457, 193, 194, 195, 196, 197, 198, 199, 200, 201, 202, 203, 204, 205, 206, 207] (by decide +kernel) (by decide +kernel)
set_option maxRecDepth 20000 in
theorem ggc_wsL_isPlate_r7 : GoodIn wsL_law wsL_isPlate_r7 := goodIn_r _ [208, 209, 210, 211, 212, 213, 214, 215, 216, 217, 218, 219, 220, 221, 222, 223, 224, 225, 226, 227, 228, 229, 230, 231] (by decide +kernel) (by decide +kernel)
set_option maxRecDepth 20000 in
theorem ggc_wsL_isPlate_r8 : GoodIn wsL_law wsL_isPlate_r8 := goodIn_r _ [232, 458, 459, 460, 461, 29, 462, 463, 233, 234, 235, 236, 237, 238, 239, 240, 241, 242, 243, 244, 245, 246, 17, 247] (by decide +kernel) (by decide +kernel)
set_option maxRecDepth 20000 in
theorem ggc_wsL_isPlate_r9 : GoodIn wsL_law wsL_isPlate_r9 := goodIn_r _ [25, 248, 249, 250, 251, 252, 253, 254, 255, 256, 257, 258, 259, 260, 261, 262, 263, 264, 265, 266, 267, 268, 269, 270] (by decide +kernel) (by decide +kernel)
set_option maxRecDepth 20000 in
theorem ggc_wsL_isPlate_r10 : GoodIn wsL_law wsL_isPlate_r10 := goodIn_r _ [271, 272, 273, 274, 275, 276, 277, 278, 55, 279, 69] (by decide +kernel) (by decide +kernel)
theorem ggL_law_L_isPlate : GoodIn wsL_law wsL_isPlate := goodIn_app (a := [Cond.code yL_isPlate cL_isPlate 11 (some .boolean)]) (b := ((wsL_isPlate_r1 ++ (wsL_isPlate_r2 ++ (wsL_isPlate_r3 ++ (wsL_isPlate_r4 ++ (wsL_isPlate_r5 ++ (wsL_isPlate_r6 ++ (wsL_isPlate_r7 ++ (wsL_isPlate_r8 ++ (wsL_isPlate_r9 ++ wsL_isPlate_r10))))))))) ++ wsX60 ++ wsX10 ++ wsX00 ++ wsX40 ++ wsX20 ++ wsX50)) (goodIn_sub (fun w hw => by rw [List.mem_singleton.mp hw]; exact meml_isPlate) (by decide +kernel)) (goodIn_app (goodIn_app (goodIn_app (goodIn_app (goodIn_app (goodIn_app (goodIn_app ggc_wsL_isPlate_r1 (goodIn_app ggc_wsL_isPlate_r2 (goodIn_app ggc_wsL_isPlate_r3 (goodIn_app ggc_wsL_isPlate_r4 (goodIn_app ggc_wsL_isPlate_r5 (goodIn_app ggc_wsL_isPlate_r6 (goodIn_app ggc_wsL_isPlate_r7 (goodIn_app ggc_wsL_isPlate_r8 (goodIn_app ggc_wsL_isPlate_r9 ggc_wsL_isPlate_r10))))))))) (goodIn_sub inlX6 (by decide +kernel))) (goodIn_sub inlX1 (by decide +kernel))) (goodIn_sub inlX0 (by decide +kernel))) (goodIn_sub inlX4 (by decide +kernel))) (goodIn_sub inlX2 (by decide +kernel))) (goodIn_sub inlX5 (by decide +kernel)))
set_option maxRecDepth 20000 in
theorem gL_law_L_isPlate : GoodIn wsL_law (va_wsS RL 121 yL_isPlate wsL_isPlate) := goodIn_app (goodIn_of _ (by decide +kernel)) ggL_law_L_isPlate
set_option maxRecDepth 20000 in
theorem ggL_law_X6_log : GoodIn wsL_law wsX6_log := goodIn_r _ [514, 13, 17, 99, 100, 2, 101, 102, 103, 104, 402, 403, 404, 105, 106, 107, 361, 362, 363, 12, 364, 184, 185, 186, 187, 188, 146, 147, 148, 39, 189, 190, 191, 192, 308, 309, 310, 16, 311, 48, 47, 46, 292, 293, 294, 295, 312, 313, 314, 315, 300, 301, 302, 303, 419, 374, 375, 376, 213, 214, 215, 197, 533, 534, 535, 536, 537, 538, 539, 540, 541, 542, 543, 544, 545, 546] (by decide +kernel) (by decide +kernel)
set_option maxRecDepth 20000 in
theorem gL_law_X6_log : GoodIn wsL_law (wsV RL 92 RX6 yX6_log wsX6_log) := goodIn_app (goodIn_of _ (by decide +kernel)) ggL_law_X6_log
set_option maxRecDepth 20000 in
theorem ggL_law_X6_calm : GoodIn wsL_law wsX6_calm := goodIn_r _ [412, 13, 17, 99, 100, 2, 101, 102, 103, 104, 105, 106, 107, 361, 362, 363, 12, 364, 184, 185, 186, 187, 188, 146, 147, 148, 39, 189, 190, 191, 192, 308, 309, 310, 16, 311, 48, 47, 46, 292, 293, 294, 295, 312, 313, 314, 315, 300, 301, 302, 303, 413, 370, 371, 372, 197, 533, 534, 535, 536, 537, 538, 539, 540, 541, 542, 543, 544, 545, 546] (by decide +kernel) (by decide +kernel)
set_option maxRecDepth 20000 in
theorem gL_law_X6_calm : GoodIn wsL_law (wsV RL 65 RX6 yX6_calm wsX6_calm) := goodIn_app (goodIn_of _ (by decide +kernel)) ggL_law_X6_calm
set_option maxRecDepth 20000 in
theorem ggL_law_X6_turn : GoodIn wsL_law wsX6_turn := goodIn_r _ [426, 13, 17, 99, 100, 2, 101, 102, 103, 104, 105, 106, 107, 198, 146, 147, 12, 148, 39, 308, 309, 310, 16, 311, 48, 47, 46, 292, 293, 294, 295, 312, 313, 314, 315, 300, 301, 302, 303, 427, 428, 429, 430, 40, 533, 534, 535, 536, 537, 538, 539, 540, 541, 542, 543, 544, 545, 546] (by decide +kernel) (by decide +kernel)
set_option maxRecDepth 20000 in
theorem gL_law_X6_turn : GoodIn wsL_law (wsV RL 51 RX6 yX6_turn wsX6_turn) := goodIn_app (goodIn_of _ (by decide +kernel)) ggL_law_X6_turn
set_option maxRecDepth 20000 in
theorem ggL_law_X6_set : GoodIn wsL_law wsX6_set := goodIn_r _ [434, 13, 17, 102, 103, 2, 104, 435, 436, 437, 438, 439, 440, 441, 242, 160, 161, 12, 162, 39, 308, 309, 310, 16, 311, 48, 47, 46, 292, 293, 294, 295, 312, 313, 314, 315, 300, 301, 302, 303, 442, 443, 444, 445, 533, 534, 535, 536, 537, 538, 539, 540, 541, 542, 543, 544, 545, 546] (by decide +kernel) (by decide +kernel)
set_option maxRecDepth 20000 in
theorem gL_law_X6_set : GoodIn wsL_law (wsV RL 75 RX6 yX6_set wsX6_set) := goodIn_app (goodIn_of _ (by decide +kernel)) ggL_law_X6_set
set_option maxRecDepth 20000 in
theorem ggL_law_X6_share : GoodIn wsL_law wsX6_share := goodIn_r _ [461, 29, 13, 462, 453, 454, 2, 455, 99, 100, 101, 102, 103, 104, 402, 403, 404, 405, 406, 407, 105, 106, 107, 463, 138, 139, 28, 140, 75, 78, 74, 141, 142, 143, 144, 145, 146, 147, 12, 148, 39, 149, 150, 151, 152, 153, 154, 155, 156, 157, 158, 159, 160, 161, 162, 163, 164, 165, 166, 167, 168, 169, 170, 456, 533, 534, 535, 536, 537, 538, 539, 540, 541, 554, 555, 556, 557, 542, 543] (by decide +kernel) (by decide +kernel)
set_option maxRecDepth 20000 in
theorem gL_law_X6_share : GoodIn wsL_law (wsV RL 18 RX6 yX6_share wsX6_share) := goodIn_app (goodIn_of _ (by decide +kernel)) ggL_law_X6_share
set_option maxRecDepth 20000 in
theorem ggL_law_X6_hours : GoodIn wsL_law wsX6_hours := goodIn_r _ [401, 13, 99, 100, 2, 101, 102, 103, 104, 402, 403, 404, 105, 106, 107, 229, 230, 231, 12, 232, 163, 164, 165, 166, 39, 405, 406, 407, 408, 156, 157, 158, 159, 160, 161, 162, 533, 534, 535, 536, 537, 538, 539, 540, 541, 542, 543] (by decide +kernel) (by decide +kernel)
set_option maxRecDepth 20000 in
theorem gL_law_X6_hours : GoodIn wsL_law (wsV RL 14 RX6 yX6_hours wsX6_hours) := goodIn_app (goodIn_of _ (by decide +kernel)) ggL_law_X6_hours
set_option maxRecDepth 20000 in
theorem ggL_law_X6_rose : GoodIn wsL_law wsX6_rose := goodIn_r _ [196, 13, 99, 100, 2, 101, 102, 103, 104, 105, 106, 107, 197, 185, 186, 12, 187, 188, 146, 147, 148, 39, 189, 190, 191, 192, 198, 199, 200, 181, 182, 183, 184, 201, 202, 203, 204, 205, 206, 207, 208, 209, 210, 211, 212, 213, 214, 215, 216, 217, 218, 219, 220, 221, 222, 223, 224, 156, 157, 158, 159, 160, 161, 162, 163, 164, 165, 166, 225, 226, 227, 228, 229, 230, 231, 232, 533, 534, 535, 536, 537, 538, 539, 540, 541, 542, 543] (by decide +kernel) (by decide +kernel)
set_option maxRecDepth 20000 in
theorem gL_law_X6_rose : GoodIn wsL_law (wsV RL 8 RX6 yX6_rose wsX6_rose) := goodIn_app (goodIn_of _ (by decide +kernel)) ggL_law_X6_rose
set_option maxRecDepth 20000 in
theorem ggL_law_X6_count : GoodIn wsL_law wsX6_count := goodIn_r _ [246, 13, 17, 247, 25, 248, 249, 250, 12, 251, 252, 253, 254, 255, 39, 256, 257, 258, 259, 260, 261, 262, 2, 263, 34, 241, 132, 133, 134, 33, 135, 84, 85, 86, 87, 136, 137, 138, 139, 28, 140, 75, 78, 74, 141, 142, 143, 144, 145, 146, 147, 148, 149, 150, 151, 152, 153, 154, 155, 156, 157, 158, 159, 160, 161, 162, 163, 164, 165, 166, 167, 168, 169, 170, 171, 121, 122, 123, 172, 173, 174, 175, 176, 177, 130, 178, 179, 109, 110, 111, 180, 181, 182, 183, 184, 185, 186, 187, 188, 189, 190, 191, 192, 264, 265, 266, 267, 268, 269, 270, 271, 272, 273, 274, 275, 242, 276, 277, 278, 55, 279, 69, 533, 534, 535, 536, 537, 538, 539, 540, 541, 544, 545, 546, 542, 543, 558, 559, 560, 561, 554, 555, 556, 557, 562, 563] (by decide +kernel) (by decide +kernel)
set_option maxRecDepth 20000 in
theorem gL_law_X6_count : GoodIn wsL_law (wsV RL 40 RX6 yX6_count wsX6_count) := goodIn_app (goodIn_of _ (by decide +kernel)) ggL_law_X6_count
theorem dL_law_0 : decode cL_law 0 = .ok (.new 9, 3) := by decide +kernel
theorem dL_law_3 : decode cL_law 3 = .ok (.dup, 1) := by decide +kernel
theorem dL_law_4 : decode cL_law 4 = .ok (.invokespecial 96, 3) := by decide +kernel
theorem dL_law_7 : decode cL_law 7 = .ok (.astore_n 1, 1) := by decide +kernel
theorem dL_law_8 : decode cL_law 8 = .ok (.bipush 48, 2) := by decide +kernel
theorem dL_law_10 : decode cL_law 10 = .ok (.newarray .int, 2) := by decide +kernel
theorem dL_law_12 : decode cL_law 12 = .ok (.astore_n 2, 1) := by decide +kernel
theorem dL_law_13 : decode cL_law 13 = .ok (.aload_n 1, 1) := by decide +kernel
theorem dL_law_14 : decode cL_law 14 = .ok (.invokestatic 97, 3) := by decide +kernel
theorem dL_law_17 : decode cL_law 17 = .ok (.ifCond .eq 51, 3) := by decide +kernel
theorem dL_law_20 : decode cL_law 20 = .ok (.aload_n 1, 1) := by decide +kernel
theorem dL_law_21 : decode cL_law 21 = .ok (.invokevirtual 101, 3) := by decide +kernel
theorem dL_law_24 : decode cL_law 24 = .ok (.bipush (-5), 2) := by decide +kernel
theorem dL_law_26 : decode cL_law 26 = .ok (.if_icmp .ne 42, 3) := by decide +kernel
theorem dL_law_29 : decode cL_law 29 = .ok (.aload_n 1, 1) := by decide +kernel
theorem dL_law_30 : decode cL_law 30 = .ok (.invokevirtual 104, 3) := by decide +kernel
theorem dL_law_33 : decode cL_law 33 = .ok (.bipush (-5), 2) := by decide +kernel
theorem dL_law_35 : decode cL_law 35 = .ok (.if_icmp .ne 33, 3) := by decide +kernel
theorem dL_law_38 : decode cL_law 38 = .ok (.aload_n 1, 1) := by decide +kernel
theorem dL_law_39 : decode cL_law 39 = .ok (.invokevirtual 107, 3) := by decide +kernel
theorem dL_law_42 : decode cL_law 42 = .ok (.bipush (-100), 2) := by decide +kernel
theorem dL_law_44 : decode cL_law 44 = .ok (.if_icmp .ne 24, 3) := by decide +kernel
theorem dL_law_47 : decode cL_law 47 = .ok (.aload_n 1, 1) := by decide +kernel
theorem dL_law_48 : decode cL_law 48 = .ok (.iconst 0, 1) := by decide +kernel
theorem dL_law_49 : decode cL_law 49 = .ok (.iconst 0, 1) := by decide +kernel
theorem dL_law_50 : decode cL_law 50 = .ok (.invokevirtual 36, 3) := by decide +kernel
theorem dL_law_53 : decode cL_law 53 = .ok (.iconst 1, 1) := by decide +kernel
theorem dL_law_54 : decode cL_law 54 = .ok (.if_icmp .ne 14, 3) := by decide +kernel
theorem dL_law_57 : decode cL_law 57 = .ok (.aload_n 1, 1) := by decide +kernel
theorem dL_law_58 : decode cL_law 58 = .ok (.iconst 3, 1) := by decide +kernel
theorem dL_law_59 : decode cL_law 59 = .ok (.iconst 3, 1) := by decide +kernel
theorem dL_law_60 : decode cL_law 60 = .ok (.invokevirtual 48, 3) := by decide +kernel
theorem dL_law_63 : decode cL_law 63 = .ok (.bipush (-4), 2) := by decide +kernel
theorem dL_law_65 : decode cL_law 65 = .ok (.if_icmp .eq 5, 3) := by decide +kernel
theorem dL_law_68 : decode cL_law 68 = .ok (.iconst 0, 1) := by decide +kernel
theorem dL_law_69 : decode cL_law 69 = .ok (.ireturn, 1) := by decide +kernel
theorem dL_law_70 : decode cL_law 70 = .ok (.iconst 0, 1) := by decide +kernel
theorem dL_law_71 : decode cL_law 71 = .ok (.istore_n 3, 1) := by decide +kernel
theorem dL_law_72 : decode cL_law 72 = .ok (.iload_n 3, 1) := by decide +kernel
theorem dL_law_73 : decode cL_law 73 = .ok (.bipush 80, 2) := by decide +kernel
theorem dL_law_75 : decode cL_law 75 = .ok (.if_icmp .ge 109, 3) := by decide +kernel
theorem dL_law_78 : decode cL_law 78 = .ok (.aload_n 0, 1) := by decide +kernel
theorem dL_law_79 : decode cL_law 79 = .ok (.iconst 2, 1) := by decide +kernel
theorem dL_law_80 : decode cL_law 80 = .ok (.iload_n 3, 1) := by decide +kernel
theorem dL_law_81 : decode cL_law 81 = .ok (.imul, 1) := by decide +kernel
theorem dL_law_82 : decode cL_law 82 = .ok (.invokestatic 110, 3) := by decide +kernel
theorem dL_law_85 : decode cL_law 85 = .ok (.istore 4, 2) := by decide +kernel
theorem dL_law_87 : decode cL_law 87 = .ok (.aload_n 1, 1) := by decide +kernel
theorem dL_law_88 : decode cL_law 88 = .ok (.iload 4, 2) := by decide +kernel
theorem dL_law_90 : decode cL_law 90 = .ok (.aload_n 0, 1) := by decide +kernel
theorem dL_law_91 : decode cL_law 91 = .ok (.iconst 2, 1) := by decide +kernel
theorem dL_law_92 : decode cL_law 92 = .ok (.iload_n 3, 1) := by decide +kernel
theorem dL_law_93 : decode cL_law 93 = .ok (.imul, 1) := by decide +kernel
theorem dL_law_94 : decode cL_law 94 = .ok (.iconst 1, 1) := by decide +kernel
theorem dL_law_95 : decode cL_law 95 = .ok (.iadd, 1) := by decide +kernel
theorem dL_law_96 : decode cL_law 96 = .ok (.invokestatic 110, 3) := by decide +kernel
theorem dL_law_99 : decode cL_law 99 = .ok (.aload_n 2, 1) := by decide +kernel
theorem dL_law_100 : decode cL_law 100 = .ok (.invokestatic 114, 3) := by decide +kernel
theorem dL_law_103 : decode cL_law 103 = .ok (.ifCond .eq 73, 3) := by decide +kernel
theorem dL_law_106 : decode cL_law 106 = .ok (.iload_n 3, 1) := by decide +kernel
theorem dL_law_107 : decode cL_law 107 = .ok (.iconst 3, 1) := by decide +kernel
theorem dL_law_108 : decode cL_law 108 = .ok (.irem, 1) := by decide +kernel
theorem dL_law_109 : decode cL_law 109 = .ok (.iconst 1, 1) := by decide +kernel
theorem dL_law_110 : decode cL_law 110 = .ok (.if_icmp .ne 23, 3) := by decide +kernel
theorem dL_law_113 : decode cL_law 113 = .ok (.aload_n 1, 1) := by decide +kernel
theorem dL_law_114 : decode cL_law 114 = .ok (.iload 4, 2) := by decide +kernel
theorem dL_law_116 : decode cL_law 116 = .ok (.iconst 5, 1) := by decide +kernel
theorem dL_law_117 : decode cL_law 117 = .ok (.ishr, 1) := by decide +kernel
theorem dL_law_118 : decode cL_law 118 = .ok (.iconst 1, 1) := by decide +kernel
theorem dL_law_119 : decode cL_law 119 = .ok (.iand, 1) := by decide +kernel
theorem dL_law_120 : decode cL_law 120 = .ok (.iload 4, 2) := by decide +kernel
theorem dL_law_122 : decode cL_law 122 = .ok (.bipush 6, 2) := by decide +kernel
theorem dL_law_124 : decode cL_law 124 = .ok (.ishr, 1) := by decide +kernel
theorem dL_law_125 : decode cL_law 125 = .ok (.iconst 1, 1) := by decide +kernel
theorem dL_law_126 : decode cL_law 126 = .ok (.iand, 1) := by decide +kernel
theorem dL_law_127 : decode cL_law 127 = .ok (.invokestatic 118, 3) := by decide +kernel
theorem dL_law_130 : decode cL_law 130 = .ok (.ifCond .eq 46, 3) := by decide +kernel
theorem dL_law_133 : decode cL_law 133 = .ok (.iload_n 3, 1) := by decide +kernel
theorem dL_law_134 : decode cL_law 134 = .ok (.iconst 4, 1) := by decide +kernel
theorem dL_law_135 : decode cL_law 135 = .ok (.irem, 1) := by decide +kernel
theorem dL_law_136 : decode cL_law 136 = .ok (.iconst 2, 1) := by decide +kernel
theorem dL_law_137 : decode cL_law 137 = .ok (.if_icmp .ne 23, 3) := by decide +kernel
theorem dL_law_140 : decode cL_law 140 = .ok (.aload_n 1, 1) := by decide +kernel
theorem dL_law_141 : decode cL_law 141 = .ok (.iload 4, 2) := by decide +kernel
theorem dL_law_143 : decode cL_law 143 = .ok (.iconst 5, 1) := by decide +kernel
theorem dL_law_144 : decode cL_law 144 = .ok (.ishr, 1) := by decide +kernel
theorem dL_law_145 : decode cL_law 145 = .ok (.iconst 1, 1) := by decide +kernel
theorem dL_law_146 : decode cL_law 146 = .ok (.iand, 1) := by decide +kernel
theorem dL_law_147 : decode cL_law 147 = .ok (.iload 4, 2) := by decide +kernel
theorem dL_law_149 : decode cL_law 149 = .ok (.bipush 6, 2) := by decide +kernel
theorem dL_law_151 : decode cL_law 151 = .ok (.ishr, 1) := by decide +kernel
theorem dL_law_152 : decode cL_law 152 = .ok (.iconst 1, 1) := by decide +kernel
theorem dL_law_153 : decode cL_law 153 = .ok (.iand, 1) := by decide +kernel
theorem dL_law_154 : decode cL_law 154 = .ok (.invokestatic 121, 3) := by decide +kernel
theorem dL_law_157 : decode cL_law 157 = .ok (.ifCond .eq 19, 3) := by decide +kernel
theorem dL_law_160 : decode cL_law 160 = .ok (.iload_n 3, 1) := by decide +kernel
theorem dL_law_161 : decode cL_law 161 = .ok (.bipush 20, 2) := by decide +kernel
theorem dL_law_163 : decode cL_law 163 = .ok (.irem, 1) := by decide +kernel
theorem dL_law_164 : decode cL_law 164 = .ok (.bipush 13, 2) := by decide +kernel
theorem dL_law_166 : decode cL_law 166 = .ok (.if_icmp .ne 12, 3) := by decide +kernel
theorem dL_law_169 : decode cL_law 169 = .ok (.aload_n 1, 1) := by decide +kernel
theorem dL_law_170 : decode cL_law 170 = .ok (.invokestatic 97, 3) := by decide +kernel
theorem dL_law_173 : decode cL_law 173 = .ok (.ifCond .ne 5, 3) := by decide +kernel
theorem dL_law_176 : decode cL_law 176 = .ok (.iconst 0, 1) := by decide +kernel
theorem dL_law_177 : decode cL_law 177 = .ok (.ireturn, 1) := by decide +kernel
theorem dL_law_178 : decode cL_law 178 = .ok (.iinc 3 1, 3) := by decide +kernel
theorem dL_law_181 : decode cL_law 181 = .ok (.goto (-109), 3) := by decide +kernel
theorem dL_law_184 : decode cL_law 184 = .ok (.aload_n 1, 1) := by decide +kernel
theorem dL_law_185 : decode cL_law 185 = .ok (.iconst 4, 1) := by decide +kernel
theorem dL_law_186 : decode cL_law 186 = .ok (.iconst 0, 1) := by decide +kernel
theorem dL_law_187 : decode cL_law 187 = .ok (.iconst 0, 1) := by decide +kernel
theorem dL_law_188 : decode cL_law 188 = .ok (.iconst 1, 1) := by decide +kernel
theorem dL_law_189 : decode cL_law 189 = .ok (.iconst 1, 1) := by decide +kernel
theorem dL_law_190 : decode cL_law 190 = .ok (.invokevirtual 92, 3) := by decide +kernel
theorem dL_law_193 : decode cL_law 193 = .ok (.iconst (-1), 1) := by decide +kernel
theorem dL_law_194 : decode cL_law 194 = .ok (.if_icmp .ne 105, 3) := by decide +kernel
theorem dL_law_197 : decode cL_law 197 = .ok (.aload_n 1, 1) := by decide +kernel
theorem dL_law_198 : decode cL_law 198 = .ok (.iconst 0, 1) := by decide +kernel
theorem dL_law_199 : decode cL_law 199 = .ok (.iconst 0, 1) := by decide +kernel
theorem dL_law_200 : decode cL_law 200 = .ok (.iconst 0, 1) := by decide +kernel
theorem dL_law_201 : decode cL_law 201 = .ok (.bipush 100, 2) := by decide +kernel
theorem dL_law_203 : decode cL_law 203 = .ok (.iconst 1, 1) := by decide +kernel
theorem dL_law_204 : decode cL_law 204 = .ok (.invokevirtual 92, 3) := by decide +kernel
theorem dL_law_207 : decode cL_law 207 = .ok (.bipush (-2), 2) := by decide +kernel
theorem dL_law_209 : decode cL_law 209 = .ok (.if_icmp .ne 90, 3) := by decide +kernel
theorem dL_law_212 : decode cL_law 212 = .ok (.aload_n 1, 1) := by decide +kernel
theorem dL_law_213 : decode cL_law 213 = .ok (.iconst 0, 1) := by decide +kernel
theorem dL_law_214 : decode cL_law 214 = .ok (.iconst 0, 1) := by decide +kernel
theorem dL_law_215 : decode cL_law 215 = .ok (.iconst 0, 1) := by decide +kernel
theorem dL_law_216 : decode cL_law 216 = .ok (.invokevirtual 65, 3) := by decide +kernel
theorem dL_law_219 : decode cL_law 219 = .ok (.bipush (-2), 2) := by decide +kernel
theorem dL_law_221 : decode cL_law 221 = .ok (.if_icmp .ne 78, 3) := by decide +kernel
theorem dL_law_224 : decode cL_law 224 = .ok (.aload_n 1, 1) := by decide +kernel
theorem dL_law_225 : decode cL_law 225 = .ok (.iconst 0, 1) := by decide +kernel
theorem dL_law_226 : decode cL_law 226 = .ok (.iconst 0, 1) := by decide +kernel
theorem dL_law_227 : decode cL_law 227 = .ok (.bipush 16, 2) := by decide +kernel
theorem dL_law_229 : decode cL_law 229 = .ok (.invokevirtual 51, 3) := by decide +kernel
theorem dL_law_232 : decode cL_law 232 = .ok (.bipush (-2), 2) := by decide +kernel
theorem dL_law_234 : decode cL_law 234 = .ok (.if_icmp .ne 65, 3) := by decide +kernel
theorem dL_law_237 : decode cL_law 237 = .ok (.aload_n 1, 1) := by decide +kernel
theorem dL_law_238 : decode cL_law 238 = .ok (.iconst 3, 1) := by decide +kernel
theorem dL_law_239 : decode cL_law 239 = .ok (.iconst 0, 1) := by decide +kernel
theorem dL_law_240 : decode cL_law 240 = .ok (.invokevirtual 75, 3) := by decide +kernel
theorem dL_law_243 : decode cL_law 243 = .ok (.iconst (-1), 1) := by decide +kernel
theorem dL_law_244 : decode cL_law 244 = .ok (.if_icmp .ne 55, 3) := by decide +kernel
theorem dL_law_247 : decode cL_law 247 = .ok (.aload_n 1, 1) := by decide +kernel
theorem dL_law_248 : decode cL_law 248 = .ok (.iconst 0, 1) := by decide +kernel
theorem dL_law_249 : decode cL_law 249 = .ok (.iconst 0, 1) := by decide +kernel
theorem dL_law_250 : decode cL_law 250 = .ok (.iconst 0, 1) := by decide +kernel
theorem dL_law_251 : decode cL_law 251 = .ok (.iconst 3, 1) := by decide +kernel
theorem dL_law_252 : decode cL_law 252 = .ok (.invokevirtual 18, 3) := by decide +kernel
theorem dL_law_255 : decode cL_law 255 = .ok (.iconst (-1), 1) := by decide +kernel
theorem dL_law_256 : decode cL_law 256 = .ok (.if_icmp .ne 43, 3) := by decide +kernel
theorem dL_law_259 : decode cL_law 259 = .ok (.aload_n 1, 1) := by decide +kernel
theorem dL_law_260 : decode cL_law 260 = .ok (.iconst 0, 1) := by decide +kernel
theorem dL_law_261 : decode cL_law 261 = .ok (.iconst 0, 1) := by decide +kernel
theorem dL_law_262 : decode cL_law 262 = .ok (.iconst 0, 1) := by decide +kernel
theorem dL_law_263 : decode cL_law 263 = .ok (.iconst 4, 1) := by decide +kernel
theorem dL_law_264 : decode cL_law 264 = .ok (.invokevirtual 14, 3) := by decide +kernel
theorem dL_law_267 : decode cL_law 267 = .ok (.iconst (-1), 1) := by decide +kernel
theorem dL_law_268 : decode cL_law 268 = .ok (.if_icmp .ne 31, 3) := by decide +kernel
theorem dL_law_271 : decode cL_law 271 = .ok (.aload_n 1, 1) := by decide +kernel
theorem dL_law_272 : decode cL_law 272 = .ok (.iconst 0, 1) := by decide +kernel
theorem dL_law_273 : decode cL_law 273 = .ok (.iconst 0, 1) := by decide +kernel
theorem dL_law_274 : decode cL_law 274 = .ok (.bipush 10, 2) := by decide +kernel
theorem dL_law_276 : decode cL_law 276 = .ok (.invokevirtual 8, 3) := by decide +kernel
theorem dL_law_279 : decode cL_law 279 = .ok (.bipush (-2), 2) := by decide +kernel
theorem dL_law_281 : decode cL_law 281 = .ok (.if_icmp .ne 18, 3) := by decide +kernel
theorem dL_law_284 : decode cL_law 284 = .ok (.aload_n 1, 1) := by decide +kernel
theorem dL_law_285 : decode cL_law 285 = .ok (.bipush 11, 2) := by decide +kernel
theorem dL_law_287 : decode cL_law 287 = .ok (.invokevirtual 40, 3) := by decide +kernel
theorem dL_law_290 : decode cL_law 290 = .ok (.bipush (-2), 2) := by decide +kernel
theorem dL_law_292 : decode cL_law 292 = .ok (.if_icmp .ne 7, 3) := by decide +kernel
theorem dL_law_295 : decode cL_law 295 = .ok (.iconst 1, 1) := by decide +kernel
theorem dL_law_296 : decode cL_law 296 = .ok (.goto 4, 3) := by decide +kernel
theorem dL_law_299 : decode cL_law 299 = .ok (.iconst 0, 1) := by decide +kernel
theorem dL_law_300 : decode cL_law 300 = .ok (.ireturn, 1) := by decide +kernel
