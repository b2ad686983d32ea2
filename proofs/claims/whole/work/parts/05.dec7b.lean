set_option maxRecDepth 20000 in
theorem ggX7_headEnd_X7_behind : GoodIn wsX7_headEnd wsX7_behind := goodIn_r _ [22, 10, 11, 12, 4, 13, 14, 15, 23, 24, 25, 26, 27, 28, 29, 30, 31, 32, 33] (by decide +kernel) (by decide +kernel)
set_option maxRecDepth 20000 in
theorem gX7_headEnd_X7_behind : GoodIn wsX7_headEnd (wsV RX7 129 RX7 yX7_behind wsX7_behind) := goodIn_app (goodIn_of _ (by decide +kernel)) ggX7_headEnd_X7_behind
theorem dX7_headEnd_0 : decode cX7_headEnd 0 = .ok (.aload_n 0, 1) := by decide +kernel
theorem dX7_headEnd_1 : decode cX7_headEnd 1 = .ok (.aload_n 0, 1) := by decide +kernel
theorem dX7_headEnd_2 : decode cX7_headEnd 2 = .ok (.iload_n 1, 1) := by decide +kernel
theorem dX7_headEnd_3 : decode cX7_headEnd 3 = .ok (.iconst 0, 1) := by decide +kernel
theorem dX7_headEnd_4 : decode cX7_headEnd 4 = .ok (.iconst 3, 1) := by decide +kernel
theorem dX7_headEnd_5 : decode cX7_headEnd 5 = .ok (.invokevirtual 126, 3) := by decide +kernel
theorem dX7_headEnd_8 : decode cX7_headEnd 8 = .ok (.bipush 46, 2) := by decide +kernel
theorem dX7_headEnd_10 : decode cX7_headEnd 10 = .ok (.invokevirtual 129, 3) := by decide +kernel
theorem dX7_headEnd_13 : decode cX7_headEnd 13 = .ok (.istore_n 2, 1) := by decide +kernel
theorem dX7_headEnd_14 : decode cX7_headEnd 14 = .ok (.aload_n 0, 1) := by decide +kernel
theorem dX7_headEnd_15 : decode cX7_headEnd 15 = .ok (.aload_n 0, 1) := by decide +kernel
theorem dX7_headEnd_16 : decode cX7_headEnd 16 = .ok (.iload_n 2, 1) := by decide +kernel
theorem dX7_headEnd_17 : decode cX7_headEnd 17 = .ok (.iconst 0, 1) := by decide +kernel
theorem dX7_headEnd_18 : decode cX7_headEnd 18 = .ok (.iconst 3, 1) := by decide +kernel
theorem dX7_headEnd_19 : decode cX7_headEnd 19 = .ok (.invokevirtual 126, 3) := by decide +kernel
theorem dX7_headEnd_22 : decode cX7_headEnd 22 = .ok (.bipush 58, 2) := by decide +kernel
theorem dX7_headEnd_24 : decode cX7_headEnd 24 = .ok (.invokevirtual 129, 3) := by decide +kernel
theorem dX7_headEnd_27 : decode cX7_headEnd 27 = .ok (.ireturn, 1) := by decide +kernel
set_option maxRecDepth 20000 in
theorem ggX7_windEnd_X7_sign : GoodIn wsX7_windEnd wsX7_sign := goodIn_r _ [5, 6, 7, 23, 24, 25, 26, 27, 28, 29, 30, 31, 32, 33] (by decide +kernel) (by decide +kernel)
set_option maxRecDepth 20000 in
theorem gX7_windEnd_X7_sign : GoodIn wsX7_windEnd (wsV RX7 120 RX7 yX7_sign wsX7_sign) := goodIn_app (goodIn_of _ (by decide +kernel)) ggX7_windEnd_X7_sign
set_option maxRecDepth 20000 in
theorem ggX7_windEnd_X7_numberEnd : GoodIn wsX7_windEnd wsX7_numberEnd := goodIn_r _ [11, 12, 13, 14, 4, 15, 1, 2, 3, 5, 6, 7, 16, 17, 18, 23, 24, 25, 26, 27, 28, 29, 30, 31, 32, 33] (by decide +kernel) (by decide +kernel)
set_option maxRecDepth 20000 in
theorem gX7_windEnd_X7_numberEnd : GoodIn wsX7_windEnd (wsV RX7 126 RX7 yX7_numberEnd wsX7_numberEnd) := goodIn_app (goodIn_of _ (by decide +kernel)) ggX7_windEnd_X7_numberEnd
set_option maxRecDepth 20000 in
theorem ggX7_windEnd_X7_behind : GoodIn wsX7_windEnd wsX7_behind := goodIn_r _ [22, 1, 2, 3, 4, 5, 6, 7, 23, 24, 25, 26, 27, 28, 29, 30, 31, 32, 33] (by decide +kernel) (by decide +kernel)
set_option maxRecDepth 20000 in
theorem gX7_windEnd_X7_behind : GoodIn wsX7_windEnd (wsV RX7 129 RX7 yX7_behind wsX7_behind) := goodIn_app (goodIn_of _ (by decide +kernel)) ggX7_windEnd_X7_behind
theorem dX7_windEnd_0 : decode cX7_windEnd 0 = .ok (.iload_n 1, 1) := by decide +kernel
theorem dX7_windEnd_1 : decode cX7_windEnd 1 = .ok (.ifCond .lt 13, 3) := by decide +kernel
theorem dX7_windEnd_4 : decode cX7_windEnd 4 = .ok (.aload_n 0, 1) := by decide +kernel
theorem dX7_windEnd_5 : decode cX7_windEnd 5 = .ok (.iload_n 1, 1) := by decide +kernel
theorem dX7_windEnd_6 : decode cX7_windEnd 6 = .ok (.invokevirtual 120, 3) := by decide +kernel
theorem dX7_windEnd_9 : decode cX7_windEnd 9 = .ok (.bipush 99, 2) := by decide +kernel
theorem dX7_windEnd_11 : decode cX7_windEnd 11 = .ok (.if_icmp .ne 15, 3) := by decide +kernel
theorem dX7_windEnd_14 : decode cX7_windEnd 14 = .ok (.iload_n 1, 1) := by decide +kernel
theorem dX7_windEnd_15 : decode cX7_windEnd 15 = .ok (.ifCond .ge 7, 3) := by decide +kernel
theorem dX7_windEnd_18 : decode cX7_windEnd 18 = .ok (.iload_n 1, 1) := by decide +kernel
theorem dX7_windEnd_19 : decode cX7_windEnd 19 = .ok (.goto 6, 3) := by decide +kernel
theorem dX7_windEnd_22 : decode cX7_windEnd 22 = .ok (.iload_n 1, 1) := by decide +kernel
theorem dX7_windEnd_23 : decode cX7_windEnd 23 = .ok (.iconst 1, 1) := by decide +kernel
theorem dX7_windEnd_24 : decode cX7_windEnd 24 = .ok (.iadd, 1) := by decide +kernel
theorem dX7_windEnd_25 : decode cX7_windEnd 25 = .ok (.ireturn, 1) := by decide +kernel
theorem dX7_windEnd_26 : decode cX7_windEnd 26 = .ok (.aload_n 0, 1) := by decide +kernel
theorem dX7_windEnd_27 : decode cX7_windEnd 27 = .ok (.aload_n 0, 1) := by decide +kernel
theorem dX7_windEnd_28 : decode cX7_windEnd 28 = .ok (.aload_n 0, 1) := by decide +kernel
theorem dX7_windEnd_29 : decode cX7_windEnd 29 = .ok (.iload_n 1, 1) := by decide +kernel
theorem dX7_windEnd_30 : decode cX7_windEnd 30 = .ok (.iconst 0, 1) := by decide +kernel
theorem dX7_windEnd_31 : decode cX7_windEnd 31 = .ok (.bipush 15, 2) := by decide +kernel
theorem dX7_windEnd_33 : decode cX7_windEnd 33 = .ok (.invokevirtual 126, 3) := by decide +kernel
theorem dX7_windEnd_36 : decode cX7_windEnd 36 = .ok (.bipush 64, 2) := by decide +kernel
theorem dX7_windEnd_38 : decode cX7_windEnd 38 = .ok (.invokevirtual 129, 3) := by decide +kernel
theorem dX7_windEnd_41 : decode cX7_windEnd 41 = .ok (.iconst 1, 1) := by decide +kernel
theorem dX7_windEnd_42 : decode cX7_windEnd 42 = .ok (.bipush 99, 2) := by decide +kernel
theorem dX7_windEnd_44 : decode cX7_windEnd 44 = .ok (.invokevirtual 126, 3) := by decide +kernel
theorem dX7_windEnd_47 : decode cX7_windEnd 47 = .ok (.ireturn, 1) := by decide +kernel
set_option maxRecDepth 20000 in
theorem ggX7_itemEnd_X7_headEnd : GoodIn wsX7_itemEnd wsX7_headEnd := goodIn_r _ [5, 6, 7, 8, 4, 9, 10, 11, 12, 13, 14, 15, 16, 17, 18, 19, 20, 21, 22, 23, 24, 25, 26, 31, 32, 33, 34, 35, 36, 37, 38, 39, 40, 41] (by decide +kernel) (by decide +kernel)
set_option maxRecDepth 20000 in
theorem gX7_itemEnd_X7_headEnd : GoodIn wsX7_itemEnd (wsV RX7 132 RX7 yX7_headEnd wsX7_headEnd) := goodIn_app (goodIn_of _ (by decide +kernel)) ggX7_itemEnd_X7_headEnd
set_option maxRecDepth 20000 in
theorem ggX7_itemEnd_X7_windEnd : GoodIn wsX7_itemEnd wsX7_windEnd := goodIn_r _ [30, 14, 15, 16, 4, 17, 18, 19, 6, 7, 8, 9, 10, 11, 12, 13, 20, 21, 22, 23, 24, 25, 26, 31, 32, 33, 34, 35, 36, 37, 38, 39, 40, 41] (by decide +kernel) (by decide +kernel)
set_option maxRecDepth 20000 in
theorem gX7_itemEnd_X7_windEnd : GoodIn wsX7_itemEnd (wsV RX7 135 RX7 yX7_windEnd wsX7_windEnd) := goodIn_app (goodIn_of _ (by decide +kernel)) ggX7_itemEnd_X7_windEnd
set_option maxRecDepth 20000 in
theorem ggX7_itemEnd_X7_sign : GoodIn wsX7_itemEnd wsX7_sign := goodIn_r _ [17, 18, 19, 31, 32, 33, 34, 35, 36, 37, 38, 39, 40, 41] (by decide +kernel) (by decide +kernel)
set_option maxRecDepth 20000 in
theorem gX7_itemEnd_X7_sign : GoodIn wsX7_itemEnd (wsV RX7 120 RX7 yX7_sign wsX7_sign) := goodIn_app (goodIn_of _ (by decide +kernel)) ggX7_itemEnd_X7_sign
set_option maxRecDepth 20000 in
theorem ggX7_itemEnd_X7_numberEnd : GoodIn wsX7_itemEnd wsX7_numberEnd := goodIn_r _ [9, 10, 11, 12, 4, 13, 14, 15, 16, 17, 18, 19, 20, 21, 22, 31, 32, 33, 34, 35, 36, 37, 38, 39, 40, 41] (by decide +kernel) (by decide +kernel)
set_option maxRecDepth 20000 in
theorem gX7_itemEnd_X7_numberEnd : GoodIn wsX7_itemEnd (wsV RX7 126 RX7 yX7_numberEnd wsX7_numberEnd) := goodIn_app (goodIn_of _ (by decide +kernel)) ggX7_itemEnd_X7_numberEnd
theorem dX7_itemEnd_0 : decode cX7_itemEnd 0 = .ok (.aload_n 0, 1) := by decide +kernel
theorem dX7_itemEnd_1 : decode cX7_itemEnd 1 = .ok (.aload_n 0, 1) := by decide +kernel
theorem dX7_itemEnd_2 : decode cX7_itemEnd 2 = .ok (.iload_n 1, 1) := by decide +kernel
theorem dX7_itemEnd_3 : decode cX7_itemEnd 3 = .ok (.invokevirtual 132, 3) := by decide +kernel
theorem dX7_itemEnd_6 : decode cX7_itemEnd 6 = .ok (.invokevirtual 135, 3) := by decide +kernel
theorem dX7_itemEnd_9 : decode cX7_itemEnd 9 = .ok (.istore_n 2, 1) := by decide +kernel
theorem dX7_itemEnd_10 : decode cX7_itemEnd 10 = .ok (.iload_n 2, 1) := by decide +kernel
theorem dX7_itemEnd_11 : decode cX7_itemEnd 11 = .ok (.ifCond .lt 26, 3) := by decide +kernel
theorem dX7_itemEnd_14 : decode cX7_itemEnd 14 = .ok (.aload_n 0, 1) := by decide +kernel
theorem dX7_itemEnd_15 : decode cX7_itemEnd 15 = .ok (.iload_n 2, 1) := by decide +kernel
theorem dX7_itemEnd_16 : decode cX7_itemEnd 16 = .ok (.invokevirtual 120, 3) := by decide +kernel
theorem dX7_itemEnd_19 : decode cX7_itemEnd 19 = .ok (.bipush 42, 2) := by decide +kernel
theorem dX7_itemEnd_21 : decode cX7_itemEnd 21 = .ok (.if_icmp .ne 16, 3) := by decide +kernel
theorem dX7_itemEnd_24 : decode cX7_itemEnd 24 = .ok (.aload_n 0, 1) := by decide +kernel
theorem dX7_itemEnd_25 : decode cX7_itemEnd 25 = .ok (.iload_n 2, 1) := by decide +kernel
theorem dX7_itemEnd_26 : decode cX7_itemEnd 26 = .ok (.iconst 1, 1) := by decide +kernel
theorem dX7_itemEnd_27 : decode cX7_itemEnd 27 = .ok (.iadd, 1) := by decide +kernel
theorem dX7_itemEnd_28 : decode cX7_itemEnd 28 = .ok (.iconst 1, 1) := by decide +kernel
theorem dX7_itemEnd_29 : decode cX7_itemEnd 29 = .ok (.bipush 99, 2) := by decide +kernel
theorem dX7_itemEnd_31 : decode cX7_itemEnd 31 = .ok (.invokevirtual 126, 3) := by decide +kernel
theorem dX7_itemEnd_34 : decode cX7_itemEnd 34 = .ok (.goto 4, 3) := by decide +kernel
theorem dX7_itemEnd_37 : decode cX7_itemEnd 37 = .ok (.iload_n 2, 1) := by decide +kernel
theorem dX7_itemEnd_38 : decode cX7_itemEnd 38 = .ok (.ireturn, 1) := by decide +kernel
set_option maxRecDepth 20000 in
theorem ggX7_faultAt_X7_itemEnd : GoodIn wsX7_faultAt wsX7_itemEnd := goodIn_r _ [6, 7, 8, 9, 5, 10, 11, 12, 13, 14, 15, 16, 17, 18, 19, 20, 21, 22, 1, 23, 24, 25, 26, 27, 28, 29, 30, 31, 32, 33, 34, 35, 36, 37, 38, 39, 40, 41, 42, 43, 44, 45] (by decide +kernel) (by decide +kernel)
set_option maxRecDepth 20000 in
theorem gX7_faultAt_X7_itemEnd : GoodIn wsX7_faultAt (wsV RX7 138 RX7 yX7_itemEnd wsX7_itemEnd) := goodIn_app (goodIn_of _ (by decide +kernel)) ggX7_faultAt_X7_itemEnd
set_option maxRecDepth 20000 in
theorem ggX7_faultAt_X7_sign : GoodIn wsX7_faultAt wsX7_sign := goodIn_r _ [22, 1, 23, 35, 36, 37, 38, 39, 40, 41, 42, 43, 44, 45] (by decide +kernel) (by decide +kernel)
set_option maxRecDepth 20000 in
theorem gX7_faultAt_X7_sign : GoodIn wsX7_faultAt (wsV RX7 120 RX7 yX7_sign wsX7_sign) := goodIn_app (goodIn_of _ (by decide +kernel)) ggX7_faultAt_X7_sign
theorem dX7_faultAt_0 : decode cX7_faultAt 0 = .ok (.iconst 0, 1) := by decide +kernel
theorem dX7_faultAt_1 : decode cX7_faultAt 1 = .ok (.istore_n 1, 1) := by decide +kernel
theorem dX7_faultAt_2 : decode cX7_faultAt 2 = .ok (.iconst 0, 1) := by decide +kernel
theorem dX7_faultAt_3 : decode cX7_faultAt 3 = .ok (.istore_n 2, 1) := by decide +kernel
theorem dX7_faultAt_4 : decode cX7_faultAt 4 = .ok (.iload_n 2, 1) := by decide +kernel
theorem dX7_faultAt_5 : decode cX7_faultAt 5 = .ok (.bipush 80, 2) := by decide +kernel
theorem dX7_faultAt_7 : decode cX7_faultAt 7 = .ok (.if_icmp .ge 50, 3) := by decide +kernel
theorem dX7_faultAt_10 : decode cX7_faultAt 10 = .ok (.aload_n 0, 1) := by decide +kernel
theorem dX7_faultAt_11 : decode cX7_faultAt 11 = .ok (.iload_n 1, 1) := by decide +kernel
theorem dX7_faultAt_12 : decode cX7_faultAt 12 = .ok (.invokevirtual 138, 3) := by decide +kernel
theorem dX7_faultAt_15 : decode cX7_faultAt 15 = .ok (.istore_n 3, 1) := by decide +kernel
theorem dX7_faultAt_16 : decode cX7_faultAt 16 = .ok (.iload_n 3, 1) := by decide +kernel
theorem dX7_faultAt_17 : decode cX7_faultAt 17 = .ok (.ifCond .ge 7, 3) := by decide +kernel
theorem dX7_faultAt_20 : decode cX7_faultAt 20 = .ok (.iconst (-1), 1) := by decide +kernel
theorem dX7_faultAt_21 : decode cX7_faultAt 21 = .ok (.iload_n 3, 1) := by decide +kernel
theorem dX7_faultAt_22 : decode cX7_faultAt 22 = .ok (.isub, 1) := by decide +kernel
theorem dX7_faultAt_23 : decode cX7_faultAt 23 = .ok (.ireturn, 1) := by decide +kernel
theorem dX7_faultAt_24 : decode cX7_faultAt 24 = .ok (.iload_n 3, 1) := by decide +kernel
theorem dX7_faultAt_25 : decode cX7_faultAt 25 = .ok (.aload_n 0, 1) := by decide +kernel
theorem dX7_faultAt_26 : decode cX7_faultAt 26 = .ok (.getfield 117, 3) := by decide +kernel
theorem dX7_faultAt_29 : decode cX7_faultAt 29 = .ok (.if_icmp .ne 6, 3) := by decide +kernel
theorem dX7_faultAt_32 : decode cX7_faultAt 32 = .ok (.bipush (-5), 2) := by decide +kernel
theorem dX7_faultAt_34 : decode cX7_faultAt 34 = .ok (.ireturn, 1) := by decide +kernel
theorem dX7_faultAt_35 : decode cX7_faultAt 35 = .ok (.aload_n 0, 1) := by decide +kernel
theorem dX7_faultAt_36 : decode cX7_faultAt 36 = .ok (.iload_n 3, 1) := by decide +kernel
theorem dX7_faultAt_37 : decode cX7_faultAt 37 = .ok (.invokevirtual 120, 3) := by decide +kernel
theorem dX7_faultAt_40 : decode cX7_faultAt 40 = .ok (.bipush 59, 2) := by decide +kernel
theorem dX7_faultAt_42 : decode cX7_faultAt 42 = .ok (.if_icmp .eq 5, 3) := by decide +kernel
theorem dX7_faultAt_45 : decode cX7_faultAt 45 = .ok (.iload_n 3, 1) := by decide +kernel
theorem dX7_faultAt_46 : decode cX7_faultAt 46 = .ok (.ireturn, 1) := by decide +kernel
theorem dX7_faultAt_47 : decode cX7_faultAt 47 = .ok (.iload_n 3, 1) := by decide +kernel
theorem dX7_faultAt_48 : decode cX7_faultAt 48 = .ok (.iconst 1, 1) := by decide +kernel
theorem dX7_faultAt_49 : decode cX7_faultAt 49 = .ok (.iadd, 1) := by decide +kernel
theorem dX7_faultAt_50 : decode cX7_faultAt 50 = .ok (.istore_n 1, 1) := by decide +kernel
theorem dX7_faultAt_51 : decode cX7_faultAt 51 = .ok (.iinc 2 1, 3) := by decide +kernel
theorem dX7_faultAt_54 : decode cX7_faultAt 54 = .ok (.goto (-50), 3) := by decide +kernel
theorem dX7_faultAt_57 : decode cX7_faultAt 57 = .ok (.bipush (-5), 2) := by decide +kernel
theorem dX7_faultAt_59 : decode cX7_faultAt 59 = .ok (.ireturn, 1) := by decide +kernel
set_option maxRecDepth 20000 in
theorem ggX7_roseAt_X7_digit : GoodIn wsX7_roseAt wsX7_digit := goodIn_r _ [5, 6, 7, 8, 4, 9, 10, 11, 12, 13, 14, 15, 16, 17, 18, 19, 20, 21, 22, 23, 24, 25] (by decide +kernel) (by decide +kernel)
set_option maxRecDepth 20000 in
theorem gX7_roseAt_X7_digit : GoodIn wsX7_roseAt (wsV RX7 123 RX7 yX7_digit wsX7_digit) := goodIn_app (goodIn_of _ (by decide +kernel)) ggX7_roseAt_X7_digit
theorem dX7_roseAt_0 : decode cX7_roseAt 0 = .ok (.iconst 4, 1) := by decide +kernel
theorem dX7_roseAt_1 : decode cX7_roseAt 1 = .ok (.aload_n 0, 1) := by decide +kernel
theorem dX7_roseAt_2 : decode cX7_roseAt 2 = .ok (.iload_n 1, 1) := by decide +kernel
theorem dX7_roseAt_3 : decode cX7_roseAt 3 = .ok (.invokevirtual 123, 3) := by decide +kernel
theorem dX7_roseAt_6 : decode cX7_roseAt 6 = .ok (.imul, 1) := by decide +kernel
theorem dX7_roseAt_7 : decode cX7_roseAt 7 = .ok (.aload_n 0, 1) := by decide +kernel
theorem dX7_roseAt_8 : decode cX7_roseAt 8 = .ok (.iload_n 1, 1) := by decide +kernel
theorem dX7_roseAt_9 : decode cX7_roseAt 9 = .ok (.iconst 2, 1) := by decide +kernel
theorem dX7_roseAt_10 : decode cX7_roseAt 10 = .ok (.iadd, 1) := by decide +kernel
theorem dX7_roseAt_11 : decode cX7_roseAt 11 = .ok (.invokevirtual 123, 3) := by decide +kernel
theorem dX7_roseAt_14 : decode cX7_roseAt 14 = .ok (.iadd, 1) := by decide +kernel
theorem dX7_roseAt_15 : decode cX7_roseAt 15 = .ok (.ireturn, 1) := by decide +kernel
set_option maxRecDepth 20000 in
theorem ggX7_hoursAt_X7_windEnd : GoodIn wsX7_hoursAt wsX7_windEnd := goodIn_r _ [5, 6, 7, 8, 4, 9, 10, 11, 12, 13, 14, 15, 16, 17, 18, 19, 20, 21, 22, 23, 24, 25, 26, 39, 40, 41, 42, 43, 44, 45, 46, 47, 48, 49] (by decide +kernel) (by decide +kernel)
set_option maxRecDepth 20000 in
theorem gX7_hoursAt_X7_windEnd : GoodIn wsX7_hoursAt (wsV RX7 135 RX7 yX7_windEnd wsX7_windEnd) := goodIn_app (goodIn_of _ (by decide +kernel)) ggX7_hoursAt_X7_windEnd
set_option maxRecDepth 20000 in
theorem ggX7_hoursAt_X7_sign : GoodIn wsX7_hoursAt wsX7_sign := goodIn_r _ [9, 10, 11, 39, 40, 41, 42, 43, 44, 45, 46, 47, 48, 49] (by decide +kernel) (by decide +kernel)
set_option maxRecDepth 20000 in
theorem gX7_hoursAt_X7_sign : GoodIn wsX7_hoursAt (wsV RX7 120 RX7 yX7_sign wsX7_sign) := goodIn_app (goodIn_of _ (by decide +kernel)) ggX7_hoursAt_X7_sign
set_option maxRecDepth 20000 in
theorem ggX7_hoursAt_X7_itemEnd : GoodIn wsX7_hoursAt wsX7_itemEnd := goodIn_r _ [30, 31, 32, 33, 4, 34, 12, 13, 14, 15, 16, 17, 18, 19, 6, 7, 8, 9, 10, 11, 20, 21, 22, 23, 24, 25, 26, 1, 2, 3, 5, 39, 40, 41, 42, 43, 44, 45, 46, 47, 48, 49] (by decide +kernel) (by decide +kernel)
set_option maxRecDepth 20000 in
theorem gX7_hoursAt_X7_itemEnd : GoodIn wsX7_hoursAt (wsV RX7 138 RX7 yX7_itemEnd wsX7_itemEnd) := goodIn_app (goodIn_of _ (by decide +kernel)) ggX7_hoursAt_X7_itemEnd
set_option maxRecDepth 20000 in
theorem ggX7_hoursAt_X7_numberIn : GoodIn wsX7_hoursAt wsX7_numberIn := goodIn_r _ [38, 16, 17, 18, 4, 19, 6, 7, 8, 9, 10, 11, 20, 21, 22, 39, 40, 41, 42, 43, 44, 45, 46, 47, 48, 49] (by decide +kernel) (by decide +kernel)
set_option maxRecDepth 20000 in
theorem gX7_hoursAt_X7_numberIn : GoodIn wsX7_hoursAt (wsV RX7 141 RX7 yX7_numberIn wsX7_numberIn) := goodIn_app (goodIn_of _ (by decide +kernel)) ggX7_hoursAt_X7_numberIn
theorem dX7_hoursAt_0 : decode cX7_hoursAt 0 = .ok (.aload_n 0, 1) := by decide +kernel
theorem dX7_hoursAt_1 : decode cX7_hoursAt 1 = .ok (.iload_n 1, 1) := by decide +kernel
theorem dX7_hoursAt_2 : decode cX7_hoursAt 2 = .ok (.iconst 4, 1) := by decide +kernel
theorem dX7_hoursAt_3 : decode cX7_hoursAt 3 = .ok (.iadd, 1) := by decide +kernel
theorem dX7_hoursAt_4 : decode cX7_hoursAt 4 = .ok (.invokevirtual 135, 3) := by decide +kernel
theorem dX7_hoursAt_7 : decode cX7_hoursAt 7 = .ok (.istore_n 2, 1) := by decide +kernel
theorem dX7_hoursAt_8 : decode cX7_hoursAt 8 = .ok (.aload_n 0, 1) := by decide +kernel
theorem dX7_hoursAt_9 : decode cX7_hoursAt 9 = .ok (.iload_n 2, 1) := by decide +kernel
theorem dX7_hoursAt_10 : decode cX7_hoursAt 10 = .ok (.invokevirtual 120, 3) := by decide +kernel
theorem dX7_hoursAt_13 : decode cX7_hoursAt 13 = .ok (.bipush 42, 2) := by decide +kernel
theorem dX7_hoursAt_15 : decode cX7_hoursAt 15 = .ok (.if_icmp .ne 18, 3) := by decide +kernel
theorem dX7_hoursAt_18 : decode cX7_hoursAt 18 = .ok (.aload_n 0, 1) := by decide +kernel
theorem dX7_hoursAt_19 : decode cX7_hoursAt 19 = .ok (.iload_n 2, 1) := by decide +kernel
theorem dX7_hoursAt_20 : decode cX7_hoursAt 20 = .ok (.iconst 1, 1) := by decide +kernel
theorem dX7_hoursAt_21 : decode cX7_hoursAt 21 = .ok (.iadd, 1) := by decide +kernel
theorem dX7_hoursAt_22 : decode cX7_hoursAt 22 = .ok (.aload_n 0, 1) := by decide +kernel
theorem dX7_hoursAt_23 : decode cX7_hoursAt 23 = .ok (.iload_n 1, 1) := by decide +kernel
theorem dX7_hoursAt_24 : decode cX7_hoursAt 24 = .ok (.invokevirtual 138, 3) := by decide +kernel
theorem dX7_hoursAt_27 : decode cX7_hoursAt 27 = .ok (.invokevirtual 141, 3) := by decide +kernel
theorem dX7_hoursAt_30 : decode cX7_hoursAt 30 = .ok (.goto 4, 3) := by decide +kernel
theorem dX7_hoursAt_33 : decode cX7_hoursAt 33 = .ok (.iconst 1, 1) := by decide +kernel
theorem dX7_hoursAt_34 : decode cX7_hoursAt 34 = .ok (.ireturn, 1) := by decide +kernel
set_option maxRecDepth 20000 in
theorem ggX7_hoursOfText_X7_roseAt : GoodIn wsX7_hoursOfText wsX7_roseAt := goodIn_r _ [6, 7, 8, 9, 5, 10, 11, 12, 13, 14, 1, 15, 16, 17, 18, 47, 48, 49, 50, 51, 52, 53, 54, 55, 56, 57] (by decide +kernel) (by decide +kernel)
set_option maxRecDepth 20000 in
theorem gX7_hoursOfText_X7_roseAt : GoodIn wsX7_hoursOfText (wsV RX7 144 RX7 yX7_roseAt wsX7_roseAt) := goodIn_app (goodIn_of _ (by decide +kernel)) ggX7_hoursOfText_X7_roseAt
set_option maxRecDepth 20000 in
theorem ggX7_hoursOfText_X7_hoursAt : GoodIn wsX7_hoursOfText wsX7_hoursAt := goodIn_r _ [22, 23, 24, 25, 5, 26, 11, 12, 13, 14, 1, 15, 27, 28, 29, 30, 7, 8, 9, 10, 16, 17, 18, 31, 32, 33, 34, 35, 36, 37, 38, 39, 40, 41, 42, 43, 44, 45, 46, 47, 48, 49, 50, 51, 52, 53, 54, 55, 56, 57] (by decide +kernel) (by decide +kernel)
set_option maxRecDepth 20000 in
theorem gX7_hoursOfText_X7_hoursAt : GoodIn wsX7_hoursOfText (wsV RX7 147 RX7 yX7_hoursAt wsX7_hoursAt) := goodIn_app (goodIn_of _ (by decide +kernel)) ggX7_hoursOfText_X7_hoursAt
set_option maxRecDepth 20000 in
theorem ggX7_hoursOfText_X7_itemEnd : GoodIn wsX7_hoursOfText wsX7_itemEnd := goodIn_r _ [38, 39, 40, 41, 5, 42, 27, 28, 29, 30, 7, 8, 9, 10, 11, 12, 13, 14, 1, 15, 16, 17, 18, 31, 32, 33, 34, 23, 24, 25, 26, 47, 48, 49, 50, 51, 52, 53, 54, 55, 56, 57] (by decide +kernel) (by decide +kernel)
set_option maxRecDepth 20000 in
theorem gX7_hoursOfText_X7_itemEnd : GoodIn wsX7_hoursOfText (wsV RX7 138 RX7 yX7_itemEnd wsX7_itemEnd) := goodIn_app (goodIn_of _ (by decide +kernel)) ggX7_hoursOfText_X7_itemEnd
theorem dX7_hoursOfText_0 : decode cX7_hoursOfText 0 = .ok (.iconst 0, 1) := by decide +kernel
theorem dX7_hoursOfText_1 : decode cX7_hoursOfText 1 = .ok (.istore_n 2, 1) := by decide +kernel
theorem dX7_hoursOfText_2 : decode cX7_hoursOfText 2 = .ok (.iconst 0, 1) := by decide +kernel
theorem dX7_hoursOfText_3 : decode cX7_hoursOfText 3 = .ok (.istore_n 3, 1) := by decide +kernel
theorem dX7_hoursOfText_4 : decode cX7_hoursOfText 4 = .ok (.iload_n 3, 1) := by decide +kernel
theorem dX7_hoursOfText_5 : decode cX7_hoursOfText 5 = .ok (.aload_n 0, 1) := by decide +kernel
theorem dX7_hoursOfText_6 : decode cX7_hoursOfText 6 = .ok (.getfield 117, 3) := by decide +kernel
theorem dX7_hoursOfText_9 : decode cX7_hoursOfText 9 = .ok (.if_icmp .ge 39, 3) := by decide +kernel
theorem dX7_hoursOfText_12 : decode cX7_hoursOfText 12 = .ok (.iload_n 2, 1) := by decide +kernel
theorem dX7_hoursOfText_13 : decode cX7_hoursOfText 13 = .ok (.iload_n 1, 1) := by decide +kernel
theorem dX7_hoursOfText_14 : decode cX7_hoursOfText 14 = .ok (.ifCond .lt 12, 3) := by decide +kernel
theorem dX7_hoursOfText_17 : decode cX7_hoursOfText 17 = .ok (.aload_n 0, 1) := by decide +kernel
theorem dX7_hoursOfText_18 : decode cX7_hoursOfText 18 = .ok (.iload_n 3, 1) := by decide +kernel
theorem dX7_hoursOfText_19 : decode cX7_hoursOfText 19 = .ok (.invokevirtual 144, 3) := by decide +kernel
theorem dX7_hoursOfText_22 : decode cX7_hoursOfText 22 = .ok (.iload_n 1, 1) := by decide +kernel
theorem dX7_hoursOfText_23 : decode cX7_hoursOfText 23 = .ok (.if_icmp .ne 11, 3) := by decide +kernel
theorem dX7_hoursOfText_26 : decode cX7_hoursOfText 26 = .ok (.aload_n 0, 1) := by decide +kernel
theorem dX7_hoursOfText_27 : decode cX7_hoursOfText 27 = .ok (.iload_n 3, 1) := by decide +kernel
theorem dX7_hoursOfText_28 : decode cX7_hoursOfText 28 = .ok (.invokevirtual 147, 3) := by decide +kernel
theorem dX7_hoursOfText_31 : decode cX7_hoursOfText 31 = .ok (.goto 4, 3) := by decide +kernel
theorem dX7_hoursOfText_34 : decode cX7_hoursOfText 34 = .ok (.iconst 0, 1) := by decide +kernel
theorem dX7_hoursOfText_35 : decode cX7_hoursOfText 35 = .ok (.iadd, 1) := by decide +kernel
theorem dX7_hoursOfText_36 : decode cX7_hoursOfText 36 = .ok (.istore_n 2, 1) := by decide +kernel
theorem dX7_hoursOfText_37 : decode cX7_hoursOfText 37 = .ok (.aload_n 0, 1) := by decide +kernel
theorem dX7_hoursOfText_38 : decode cX7_hoursOfText 38 = .ok (.iload_n 3, 1) := by decide +kernel
theorem dX7_hoursOfText_39 : decode cX7_hoursOfText 39 = .ok (.invokevirtual 138, 3) := by decide +kernel
theorem dX7_hoursOfText_42 : decode cX7_hoursOfText 42 = .ok (.iconst 1, 1) := by decide +kernel
theorem dX7_hoursOfText_43 : decode cX7_hoursOfText 43 = .ok (.iadd, 1) := by decide +kernel
theorem dX7_hoursOfText_44 : decode cX7_hoursOfText 44 = .ok (.istore_n 3, 1) := by decide +kernel
theorem dX7_hoursOfText_45 : decode cX7_hoursOfText 45 = .ok (.goto (-41), 3) := by decide +kernel
theorem dX7_hoursOfText_48 : decode cX7_hoursOfText 48 = .ok (.iload_n 2, 1) := by decide +kernel
theorem dX7_hoursOfText_49 : decode cX7_hoursOfText 49 = .ok (.ireturn, 1) := by decide +kernel
set_option maxRecDepth 20000 in
theorem ggX7_logs_X7_roseAt : GoodIn wsX7_logs wsX7_roseAt := goodIn_r _ [6, 7, 8, 9, 5, 10, 11, 12, 13, 14, 15, 16, 17, 18, 19, 60, 61, 62, 63, 64, 65, 66, 67, 68, 69, 70] (by decide +kernel) (by decide +kernel)
set_option maxRecDepth 20000 in
theorem gX7_logs_X7_roseAt : GoodIn wsX7_logs (wsV RX7 144 RX7 yX7_roseAt wsX7_roseAt) := goodIn_app (goodIn_of _ (by decide +kernel)) ggX7_logs_X7_roseAt
set_option maxRecDepth 20000 in
theorem ggX7_logs_X7_sign : GoodIn wsX7_logs wsX7_sign := goodIn_r _ [14, 15, 16, 60, 61, 62, 63, 64, 65, 66, 67, 68, 69, 70] (by decide +kernel) (by decide +kernel)
set_option maxRecDepth 20000 in
theorem gX7_logs_X7_sign : GoodIn wsX7_logs (wsV RX7 120 RX7 yX7_sign wsX7_sign) := goodIn_app (goodIn_of _ (by decide +kernel)) ggX7_logs_X7_sign
set_option maxRecDepth 20000 in
theorem ggX7_logs_X7_hoursAt : GoodIn wsX7_logs wsX7_hoursAt := goodIn_r _ [23, 24, 25, 26, 5, 27, 11, 12, 13, 14, 15, 16, 28, 29, 30, 31, 7, 8, 9, 10, 17, 18, 19, 32, 33, 34, 35, 36, 37, 38, 39, 40, 41, 42, 43, 44, 45, 46, 47, 60, 61, 62, 63, 64, 65, 66, 67, 68, 69, 70] (by decide +kernel) (by decide +kernel)
set_option maxRecDepth 20000 in
theorem gX7_logs_X7_hoursAt : GoodIn wsX7_logs (wsV RX7 147 RX7 yX7_hoursAt wsX7_hoursAt) := goodIn_app (goodIn_of _ (by decide +kernel)) ggX7_logs_X7_hoursAt
set_option maxRecDepth 20000 in
theorem ggX7_logs_X7_numberEnd : GoodIn wsX7_logs wsX7_numberEnd := goodIn_r _ [31, 7, 8, 9, 5, 10, 11, 12, 13, 14, 15, 16, 17, 18, 19, 60, 61, 62, 63, 64, 65, 66, 67, 68, 69, 70] (by decide +kernel) (by decide +kernel)
set_option maxRecDepth 20000 in
theorem gX7_logs_X7_numberEnd : GoodIn wsX7_logs (wsV RX7 126 RX7 yX7_numberEnd wsX7_numberEnd) := goodIn_app (goodIn_of _ (by decide +kernel)) ggX7_logs_X7_numberEnd
set_option maxRecDepth 20000 in
theorem ggX7_logs_X7_numberIn : GoodIn wsX7_logs wsX7_numberIn := goodIn_r _ [47, 7, 8, 9, 5, 10, 11, 12, 13, 14, 15, 16, 17, 18, 19, 60, 61, 62, 63, 64, 65, 66, 67, 68, 69, 70] (by decide +kernel) (by decide +kernel)
set_option maxRecDepth 20000 in
theorem gX7_logs_X7_numberIn : GoodIn wsX7_logs (wsV RX7 141 RX7 yX7_numberIn wsX7_numberIn) := goodIn_app (goodIn_of _ (by decide +kernel)) ggX7_logs_X7_numberIn
set_option maxRecDepth 20000 in
theorem ggX7_logs_X7_windEnd : GoodIn wsX7_logs wsX7_windEnd := goodIn_r _ [27, 11, 12, 13, 5, 14, 15, 16, 28, 29, 30, 31, 7, 8, 9, 10, 17, 18, 19, 32, 33, 34, 35, 60, 61, 62, 63, 64, 65, 66, 67, 68, 69, 70] (by decide +kernel) (by decide +kernel)
set_option maxRecDepth 20000 in
theorem gX7_logs_X7_windEnd : GoodIn wsX7_logs (wsV RX7 135 RX7 yX7_windEnd wsX7_windEnd) := goodIn_app (goodIn_of _ (by decide +kernel)) ggX7_logs_X7_windEnd
set_option maxRecDepth 20000 in
theorem ggX7_logs_X7_at : GoodIn wsX7_logs wsX7_at := goodIn_r _ [51, 1, 52, 53, 54, 5, 55, 60, 61, 62, 63, 64, 65, 66, 67, 68, 69, 70] (by decide +kernel) (by decide +kernel)
set_option maxRecDepth 20000 in
theorem gX7_logs_X7_at : GoodIn wsX7_logs (wsV RX7 55 RX7 yX7_at wsX7_at) := goodIn_app (goodIn_of _ (by decide +kernel)) ggX7_logs_X7_at
set_option maxRecDepth 20000 in
theorem ggX7_logs_X7_puts : GoodIn wsX7_logs wsX7_puts := goodIn_r _ [59, 1, 53, 54, 5, 55, 48, 49, 50, 51, 52, 60, 61, 62, 63, 64, 65, 66, 67, 68, 69, 70] (by decide +kernel) (by decide +kernel)
set_option maxRecDepth 20000 in
theorem gX7_logs_X7_puts : GoodIn wsX7_logs (wsV RX7 91 RX7 yX7_puts wsX7_puts) := goodIn_app (goodIn_of _ (by decide +kernel)) ggX7_logs_X7_puts
theorem dX7_logs_0 : decode cX7_logs 0 = .ok (.aload_n 0, 1) := by decide +kernel
theorem dX7_logs_1 : decode cX7_logs 1 = .ok (.iload_n 1, 1) := by decide +kernel
theorem dX7_logs_2 : decode cX7_logs 2 = .ok (.invokevirtual 144, 3) := by decide +kernel
theorem dX7_logs_5 : decode cX7_logs 5 = .ok (.istore_n 2, 1) := by decide +kernel
theorem dX7_logs_6 : decode cX7_logs 6 = .ok (.aload_n 0, 1) := by decide +kernel
theorem dX7_logs_7 : decode cX7_logs 7 = .ok (.iload_n 1, 1) := by decide +kernel
theorem dX7_logs_8 : decode cX7_logs 8 = .ok (.iconst 4, 1) := by decide +kernel
theorem dX7_logs_9 : decode cX7_logs 9 = .ok (.iadd, 1) := by decide +kernel
theorem dX7_logs_10 : decode cX7_logs 10 = .ok (.invokevirtual 120, 3) := by decide +kernel
theorem dX7_logs_13 : decode cX7_logs 13 = .ok (.bipush 99, 2) := by decide +kernel
theorem dX7_logs_15 : decode cX7_logs 15 = .ok (.if_icmp .ne 23, 3) := by decide +kernel
theorem dX7_logs_18 : decode cX7_logs 18 = .ok (.aload_n 0, 1) := by decide +kernel
theorem dX7_logs_19 : decode cX7_logs 19 = .ok (.getfield 7, 3) := by decide +kernel
theorem dX7_logs_22 : decode cX7_logs 22 = .ok (.sipush 6336, 3) := by decide +kernel
theorem dX7_logs_25 : decode cX7_logs 25 = .ok (.iload_n 2, 1) := by decide +kernel
theorem dX7_logs_26 : decode cX7_logs 26 = .ok (.iadd, 1) := by decide +kernel
theorem dX7_logs_27 : decode cX7_logs 27 = .ok (.dup2, 1) := by decide +kernel
theorem dX7_logs_28 : decode cX7_logs 28 = .ok (.laload, 1) := by decide +kernel
theorem dX7_logs_29 : decode cX7_logs 29 = .ok (.aload_n 0, 1) := by decide +kernel
theorem dX7_logs_30 : decode cX7_logs 30 = .ok (.iload_n 1, 1) := by decide +kernel
theorem dX7_logs_31 : decode cX7_logs 31 = .ok (.invokevirtual 147, 3) := by decide +kernel
theorem dX7_logs_34 : decode cX7_logs 34 = .ok (.i2l, 1) := by decide +kernel
theorem dX7_logs_35 : decode cX7_logs 35 = .ok (.ladd, 1) := by decide +kernel
theorem dX7_logs_36 : decode cX7_logs 36 = .ok (.lastore, 1) := by decide +kernel
theorem dX7_logs_37 : decode cX7_logs 37 = .ok (.return_, 1) := by decide +kernel
theorem dX7_logs_38 : decode cX7_logs 38 = .ok (.aload_n 0, 1) := by decide +kernel
theorem dX7_logs_39 : decode cX7_logs 39 = .ok (.iload_n 1, 1) := by decide +kernel
theorem dX7_logs_40 : decode cX7_logs 40 = .ok (.iconst 4, 1) := by decide +kernel
theorem dX7_logs_41 : decode cX7_logs 41 = .ok (.iadd, 1) := by decide +kernel
theorem dX7_logs_42 : decode cX7_logs 42 = .ok (.iconst 0, 1) := by decide +kernel
theorem dX7_logs_43 : decode cX7_logs 43 = .ok (.bipush 15, 2) := by decide +kernel
theorem dX7_logs_45 : decode cX7_logs 45 = .ok (.invokevirtual 126, 3) := by decide +kernel
theorem dX7_logs_48 : decode cX7_logs 48 = .ok (.istore_n 3, 1) := by decide +kernel
theorem dX7_logs_49 : decode cX7_logs 49 = .ok (.aload_n 0, 1) := by decide +kernel
theorem dX7_logs_50 : decode cX7_logs 50 = .ok (.iload_n 1, 1) := by decide +kernel
theorem dX7_logs_51 : decode cX7_logs 51 = .ok (.iconst 4, 1) := by decide +kernel
theorem dX7_logs_52 : decode cX7_logs 52 = .ok (.iadd, 1) := by decide +kernel
theorem dX7_logs_53 : decode cX7_logs 53 = .ok (.iload_n 3, 1) := by decide +kernel
theorem dX7_logs_54 : decode cX7_logs 54 = .ok (.invokevirtual 141, 3) := by decide +kernel
theorem dX7_logs_57 : decode cX7_logs 57 = .ok (.istore 4, 2) := by decide +kernel
theorem dX7_logs_59 : decode cX7_logs 59 = .ok (.aload_n 0, 1) := by decide +kernel
theorem dX7_logs_60 : decode cX7_logs 60 = .ok (.iload_n 3, 1) := by decide +kernel
theorem dX7_logs_61 : decode cX7_logs 61 = .ok (.iconst 1, 1) := by decide +kernel
theorem dX7_logs_62 : decode cX7_logs 62 = .ok (.iadd, 1) := by decide +kernel
theorem dX7_logs_63 : decode cX7_logs 63 = .ok (.aload_n 0, 1) := by decide +kernel
theorem dX7_logs_64 : decode cX7_logs 64 = .ok (.iload_n 1, 1) := by decide +kernel
theorem dX7_logs_65 : decode cX7_logs 65 = .ok (.iconst 4, 1) := by decide +kernel
theorem dX7_logs_66 : decode cX7_logs 66 = .ok (.iadd, 1) := by decide +kernel
theorem dX7_logs_67 : decode cX7_logs 67 = .ok (.invokevirtual 135, 3) := by decide +kernel
theorem dX7_logs_70 : decode cX7_logs 70 = .ok (.invokevirtual 141, 3) := by decide +kernel
theorem dX7_logs_73 : decode cX7_logs 73 = .ok (.istore 5, 2) := by decide +kernel
theorem dX7_logs_75 : decode cX7_logs 75 = .ok (.aload_n 0, 1) := by decide +kernel
theorem dX7_logs_76 : decode cX7_logs 76 = .ok (.iload_n 2, 1) := by decide +kernel
theorem dX7_logs_77 : decode cX7_logs 77 = .ok (.iload 4, 2) := by decide +kernel
theorem dX7_logs_79 : decode cX7_logs 79 = .ok (.iload 5, 2) := by decide +kernel
theorem dX7_logs_81 : decode cX7_logs 81 = .ok (.aload_n 0, 1) := by decide +kernel
theorem dX7_logs_82 : decode cX7_logs 82 = .ok (.iload_n 2, 1) := by decide +kernel
theorem dX7_logs_83 : decode cX7_logs 83 = .ok (.iload 4, 2) := by decide +kernel
theorem dX7_logs_85 : decode cX7_logs 85 = .ok (.iload 5, 2) := by decide +kernel
theorem dX7_logs_87 : decode cX7_logs 87 = .ok (.invokevirtual 55, 3) := by decide +kernel
theorem dX7_logs_90 : decode cX7_logs 90 = .ok (.aload_n 0, 1) := by decide +kernel
theorem dX7_logs_91 : decode cX7_logs 91 = .ok (.iload_n 1, 1) := by decide +kernel
theorem dX7_logs_92 : decode cX7_logs 92 = .ok (.invokevirtual 147, 3) := by decide +kernel
theorem dX7_logs_95 : decode cX7_logs 95 = .ok (.iadd, 1) := by decide +kernel
theorem dX7_logs_96 : decode cX7_logs 96 = .ok (.invokevirtual 91, 3) := by decide +kernel
theorem dX7_logs_99 : decode cX7_logs 99 = .ok (.return_, 1) := by decide +kernel
set_option maxRecDepth 20000 in
theorem ggX7_logAll_X7_faultAt : GoodIn wsX7_logAll wsX7_faultAt := goodIn_r _ [6, 1, 7, 8, 9, 5, 10, 11, 12, 13, 14, 15, 16, 17, 18, 19, 20, 21, 22, 23, 24, 25, 26, 27, 28, 29, 30, 31, 32, 33, 34, 35, 36, 37, 38, 99, 100, 101, 102, 103, 104, 105, 106, 107, 108, 109] (by decide +kernel) (by decide +kernel)
set_option maxRecDepth 20000 in
theorem gX7_logAll_X7_faultAt : GoodIn wsX7_logAll (wsV RX7 150 RX7 yX7_faultAt wsX7_faultAt) := goodIn_app (goodIn_of _ (by decide +kernel)) ggX7_logAll_X7_faultAt
set_option maxRecDepth 20000 in
theorem ggX7_logAll_X7_hoursOf : GoodIn wsX7_logAll wsX7_hoursOf := goodIn_r _ [42, 43, 44, 45, 5, 46, 47, 48, 49, 50, 51, 52, 53, 54, 55, 56, 57, 58, 59, 60, 61, 62, 63, 64, 65, 66, 67, 68, 99, 100, 101, 102, 103, 104, 105, 106, 107, 108, 109] (by decide +kernel) (by decide +kernel)
set_option maxRecDepth 20000 in
theorem gX7_logAll_X7_hoursOf : GoodIn wsX7_logAll (wsV RX7 71 RX7 yX7_hoursOf wsX7_hoursOf) := goodIn_app (goodIn_of _ (by decide +kernel)) ggX7_logAll_X7_hoursOf
set_option maxRecDepth 20000 in
theorem ggX7_logAll_X7_hoursOfText : GoodIn wsX7_logAll wsX7_hoursOfText := goodIn_r _ [72, 1, 73, 74, 75, 5, 76, 19, 20, 21, 22, 23, 24, 25, 26, 27, 28, 29, 30, 77, 78, 79, 80, 35, 36, 37, 38, 15, 16, 17, 18, 31, 32, 33, 34, 7, 8, 9, 10, 11, 12, 13, 14, 81, 82, 83, 84, 99, 100, 101, 102, 103, 104, 105, 106, 107, 108, 109] (by decide +kernel) (by decide +kernel)
set_option maxRecDepth 20000 in
theorem gX7_logAll_X7_hoursOfText : GoodIn wsX7_logAll (wsV RX7 154 RX7 yX7_hoursOfText wsX7_hoursOfText) := goodIn_app (goodIn_of _ (by decide +kernel)) ggX7_logAll_X7_hoursOfText
set_option maxRecDepth 20000 in
theorem ggX7_logAll_X7_remembers : GoodIn wsX7_logAll wsX7_remembers := goodIn_r _ [88, 89, 90, 52, 99, 100, 101, 102, 103, 104, 105, 106, 107, 108, 109] (by decide +kernel) (by decide +kernel)
set_option maxRecDepth 20000 in
theorem gX7_logAll_X7_remembers : GoodIn wsX7_logAll (wsV RX7 88 RX7 yX7_remembers wsX7_remembers) := goodIn_app (goodIn_of _ (by decide +kernel)) ggX7_logAll_X7_remembers
set_option maxRecDepth 20000 in
theorem ggX7_logAll_X7_logs : GoodIn wsX7_logAll wsX7_logs := goodIn_r _ [94, 52, 73, 74, 75, 5, 76, 19, 20, 21, 22, 23, 24, 25, 26, 1, 27, 28, 29, 30, 77, 78, 79, 80, 35, 36, 37, 38, 15, 16, 17, 18, 31, 32, 33, 34, 7, 8, 9, 10, 11, 12, 13, 14, 81, 82, 83, 84, 48, 49, 50, 51, 53, 54, 55, 56, 95, 96, 97, 98, 99, 100, 101, 102, 103, 104, 105, 106, 107, 108, 109] (by decide +kernel) (by decide +kernel)
set_option maxRecDepth 20000 in
theorem gX7_logAll_X7_logs : GoodIn wsX7_logAll (wsV RX7 157 RX7 yX7_logs wsX7_logs) := goodIn_app (goodIn_of _ (by decide +kernel)) ggX7_logAll_X7_logs
set_option maxRecDepth 20000 in
theorem ggX7_logAll_X7_itemEnd : GoodIn wsX7_logAll wsX7_itemEnd := goodIn_r _ [10, 11, 12, 13, 5, 14, 15, 16, 17, 18, 19, 20, 21, 22, 23, 24, 25, 26, 1, 27, 28, 29, 30, 31, 32, 33, 34, 35, 36, 37, 38, 99, 100, 101, 102, 103, 104, 105, 106, 107, 108, 109] (by decide +kernel) (by decide +kernel)
set_option maxRecDepth 20000 in
theorem gX7_logAll_X7_itemEnd : GoodIn wsX7_logAll (wsV RX7 138 RX7 yX7_itemEnd wsX7_itemEnd) := goodIn_app (goodIn_of _ (by decide +kernel)) ggX7_logAll_X7_itemEnd
theorem dX7_logAll_0 : decode cX7_logAll 0 = .ok (.aload_n 0, 1) := by decide +kernel
theorem dX7_logAll_1 : decode cX7_logAll 1 = .ok (.invokevirtual 150, 3) := by decide +kernel
theorem dX7_logAll_4 : decode cX7_logAll 4 = .ok (.istore_n 1, 1) := by decide +kernel
theorem dX7_logAll_5 : decode cX7_logAll 5 = .ok (.iload_n 1, 1) := by decide +kernel
theorem dX7_logAll_6 : decode cX7_logAll 6 = .ok (.bipush (-5), 2) := by decide +kernel
theorem dX7_logAll_8 : decode cX7_logAll 8 = .ok (.if_icmp .eq 8, 3) := by decide +kernel
theorem dX7_logAll_11 : decode cX7_logAll 11 = .ok (.bipush (-100), 2) := by decide +kernel
theorem dX7_logAll_13 : decode cX7_logAll 13 = .ok (.iload_n 1, 1) := by decide +kernel
theorem dX7_logAll_14 : decode cX7_logAll 14 = .ok (.isub, 1) := by decide +kernel
theorem dX7_logAll_15 : decode cX7_logAll 15 = .ok (.ireturn, 1) := by decide +kernel
theorem dX7_logAll_16 : decode cX7_logAll 16 = .ok (.iconst 0, 1) := by decide +kernel
theorem dX7_logAll_17 : decode cX7_logAll 17 = .ok (.istore_n 2, 1) := by decide +kernel
theorem dX7_logAll_18 : decode cX7_logAll 18 = .ok (.iload_n 2, 1) := by decide +kernel
theorem dX7_logAll_19 : decode cX7_logAll 19 = .ok (.bipush 16, 2) := by decide +kernel
theorem dX7_logAll_21 : decode cX7_logAll 21 = .ok (.if_icmp .ge 29, 3) := by decide +kernel
theorem dX7_logAll_24 : decode cX7_logAll 24 = .ok (.aload_n 0, 1) := by decide +kernel
theorem dX7_logAll_25 : decode cX7_logAll 25 = .ok (.iload_n 2, 1) := by decide +kernel
theorem dX7_logAll_26 : decode cX7_logAll 26 = .ok (.invokevirtual 71, 3) := by decide +kernel
theorem dX7_logAll_29 : decode cX7_logAll 29 = .ok (.aload_n 0, 1) := by decide +kernel
theorem dX7_logAll_30 : decode cX7_logAll 30 = .ok (.iload_n 2, 1) := by decide +kernel
theorem dX7_logAll_31 : decode cX7_logAll 31 = .ok (.invokevirtual 154, 3) := by decide +kernel
theorem dX7_logAll_34 : decode cX7_logAll 34 = .ok (.iadd, 1) := by decide +kernel
theorem dX7_logAll_35 : decode cX7_logAll 35 = .ok (.sipush 9999, 3) := by decide +kernel
theorem dX7_logAll_38 : decode cX7_logAll 38 = .ok (.if_icmp .le 6, 3) := by decide +kernel
theorem dX7_logAll_41 : decode cX7_logAll 41 = .ok (.bipush (-3), 2) := by decide +kernel
theorem dX7_logAll_43 : decode cX7_logAll 43 = .ok (.ireturn, 1) := by decide +kernel
theorem dX7_logAll_44 : decode cX7_logAll 44 = .ok (.iinc 2 1, 3) := by decide +kernel
theorem dX7_logAll_47 : decode cX7_logAll 47 = .ok (.goto (-29), 3) := by decide +kernel
theorem dX7_logAll_50 : decode cX7_logAll 50 = .ok (.aload_n 0, 1) := by decide +kernel
theorem dX7_logAll_51 : decode cX7_logAll 51 = .ok (.invokevirtual 88, 3) := by decide +kernel
theorem dX7_logAll_54 : decode cX7_logAll 54 = .ok (.iconst 0, 1) := by decide +kernel
theorem dX7_logAll_55 : decode cX7_logAll 55 = .ok (.istore_n 2, 1) := by decide +kernel
theorem dX7_logAll_56 : decode cX7_logAll 56 = .ok (.iload_n 2, 1) := by decide +kernel
theorem dX7_logAll_57 : decode cX7_logAll 57 = .ok (.aload_n 0, 1) := by decide +kernel
theorem dX7_logAll_58 : decode cX7_logAll 58 = .ok (.getfield 117, 3) := by decide +kernel
theorem dX7_logAll_61 : decode cX7_logAll 61 = .ok (.if_icmp .ge 19, 3) := by decide +kernel
theorem dX7_logAll_64 : decode cX7_logAll 64 = .ok (.aload_n 0, 1) := by decide +kernel
theorem dX7_logAll_65 : decode cX7_logAll 65 = .ok (.iload_n 2, 1) := by decide +kernel
theorem dX7_logAll_66 : decode cX7_logAll 66 = .ok (.invokevirtual 157, 3) := by decide +kernel
theorem dX7_logAll_69 : decode cX7_logAll 69 = .ok (.aload_n 0, 1) := by decide +kernel
theorem dX7_logAll_70 : decode cX7_logAll 70 = .ok (.iload_n 2, 1) := by decide +kernel
theorem dX7_logAll_71 : decode cX7_logAll 71 = .ok (.invokevirtual 138, 3) := by decide +kernel
theorem dX7_logAll_74 : decode cX7_logAll 74 = .ok (.iconst 1, 1) := by decide +kernel
theorem dX7_logAll_75 : decode cX7_logAll 75 = .ok (.iadd, 1) := by decide +kernel
theorem dX7_logAll_76 : decode cX7_logAll 76 = .ok (.istore_n 2, 1) := by decide +kernel
theorem dX7_logAll_77 : decode cX7_logAll 77 = .ok (.goto (-21), 3) := by decide +kernel
theorem dX7_logAll_80 : decode cX7_logAll 80 = .ok (.aload_n 0, 1) := by decide +kernel
theorem dX7_logAll_81 : decode cX7_logAll 81 = .ok (.iconst (-1), 1) := by decide +kernel
theorem dX7_logAll_82 : decode cX7_logAll 82 = .ok (.invokevirtual 154, 3) := by decide +kernel
theorem dX7_logAll_85 : decode cX7_logAll 85 = .ok (.ireturn, 1) := by decide +kernel
set_option maxRecDepth 20000 in
theorem ggX7_allHours_X7_hoursOf : GoodIn wsX7_allHours wsX7_hoursOf := goodIn_r _ [5, 6, 7, 8, 4, 9, 10, 11, 12, 13, 14, 15, 16, 17, 18, 19, 20, 21, 22, 23, 24, 25, 26, 27, 28, 29, 30, 31, 32, 33, 34, 35, 36, 37, 38, 39, 40, 41, 42] (by decide +kernel) (by decide +kernel)
set_option maxRecDepth 20000 in
theorem gX7_allHours_X7_hoursOf : GoodIn wsX7_allHours (wsV RX7 71 RX7 yX7_hoursOf wsX7_hoursOf) := goodIn_app (goodIn_of _ (by decide +kernel)) ggX7_allHours_X7_hoursOf
set_option maxRecDepth 20000 in
theorem ggX7_allHours_X7_calmOf : GoodIn wsX7_allHours wsX7_calmOf := goodIn_r _ [27, 28, 29, 30, 4, 31, 15, 32, 33, 34, 35, 36, 37, 38, 39, 40, 41, 42] (by decide +kernel) (by decide +kernel)
set_option maxRecDepth 20000 in
theorem gX7_allHours_X7_calmOf : GoodIn wsX7_allHours (wsV RX7 68 RX7 yX7_calmOf wsX7_calmOf) := goodIn_app (goodIn_of _ (by decide +kernel)) ggX7_allHours_X7_calmOf
theorem dX7_allHours_0 : decode cX7_allHours 0 = .ok (.iconst 0, 1) := by decide +kernel
theorem dX7_allHours_1 : decode cX7_allHours 1 = .ok (.istore_n 2, 1) := by decide +kernel
theorem dX7_allHours_2 : decode cX7_allHours 2 = .ok (.iconst 0, 1) := by decide +kernel
theorem dX7_allHours_3 : decode cX7_allHours 3 = .ok (.istore_n 3, 1) := by decide +kernel
theorem dX7_allHours_4 : decode cX7_allHours 4 = .ok (.iload_n 3, 1) := by decide +kernel
theorem dX7_allHours_5 : decode cX7_allHours 5 = .ok (.bipush 16, 2) := by decide +kernel
theorem dX7_allHours_7 : decode cX7_allHours 7 = .ok (.if_icmp .ge 29, 3) := by decide +kernel
theorem dX7_allHours_10 : decode cX7_allHours 10 = .ok (.iload_n 2, 1) := by decide +kernel
theorem dX7_allHours_11 : decode cX7_allHours 11 = .ok (.iload_n 1, 1) := by decide +kernel
theorem dX7_allHours_12 : decode cX7_allHours 12 = .ok (.ifCond .ne 11, 3) := by decide +kernel
theorem dX7_allHours_15 : decode cX7_allHours 15 = .ok (.aload_n 0, 1) := by decide +kernel
theorem dX7_allHours_16 : decode cX7_allHours 16 = .ok (.iload_n 3, 1) := by decide +kernel
theorem dX7_allHours_17 : decode cX7_allHours 17 = .ok (.invokevirtual 71, 3) := by decide +kernel
theorem dX7_allHours_20 : decode cX7_allHours 20 = .ok (.goto 8, 3) := by decide +kernel
theorem dX7_allHours_23 : decode cX7_allHours 23 = .ok (.aload_n 0, 1) := by decide +kernel
theorem dX7_allHours_24 : decode cX7_allHours 24 = .ok (.iload_n 3, 1) := by decide +kernel
theorem dX7_allHours_25 : decode cX7_allHours 25 = .ok (.invokevirtual 68, 3) := by decide +kernel
theorem dX7_allHours_28 : decode cX7_allHours 28 = .ok (.iadd, 1) := by decide +kernel
theorem dX7_allHours_29 : decode cX7_allHours 29 = .ok (.istore_n 2, 1) := by decide +kernel
theorem dX7_allHours_30 : decode cX7_allHours 30 = .ok (.iinc 3 1, 3) := by decide +kernel
theorem dX7_allHours_33 : decode cX7_allHours 33 = .ok (.goto (-29), 3) := by decide +kernel
theorem dX7_allHours_36 : decode cX7_allHours 36 = .ok (.iload_n 2, 1) := by decide +kernel
theorem dX7_allHours_37 : decode cX7_allHours 37 = .ok (.ireturn, 1) := by decide +kernel
theorem dX7_undo_0 : decode cX7_undo 0 = .ok (.aload_n 0, 1) := by decide +kernel
theorem dX7_undo_1 : decode cX7_undo 1 = .ok (.getfield 45, 3) := by decide +kernel
theorem dX7_undo_4 : decode cX7_undo 4 = .ok (.ifCond .ne 6, 3) := by decide +kernel
theorem dX7_undo_7 : decode cX7_undo 7 = .ok (.bipush (-5), 2) := by decide +kernel
theorem dX7_undo_9 : decode cX7_undo 9 = .ok (.ireturn, 1) := by decide +kernel
theorem dX7_undo_10 : decode cX7_undo 10 = .ok (.aload_n 0, 1) := by decide +kernel
theorem dX7_undo_11 : decode cX7_undo 11 = .ok (.dup, 1) := by decide +kernel
theorem dX7_undo_12 : decode cX7_undo 12 = .ok (.getfield 45, 3) := by decide +kernel
theorem dX7_undo_15 : decode cX7_undo 15 = .ok (.iconst 1, 1) := by decide +kernel
theorem dX7_undo_16 : decode cX7_undo 16 = .ok (.isub, 1) := by decide +kernel
theorem dX7_undo_17 : decode cX7_undo 17 = .ok (.putfield 45, 3) := by decide +kernel
theorem dX7_undo_20 : decode cX7_undo 20 = .ok (.iconst 0, 1) := by decide +kernel
theorem dX7_undo_21 : decode cX7_undo 21 = .ok (.istore_n 1, 1) := by decide +kernel
theorem dX7_undo_22 : decode cX7_undo 22 = .ok (.iload_n 1, 1) := by decide +kernel
theorem dX7_undo_23 : decode cX7_undo 23 = .ok (.sipush 7157, 3) := by decide +kernel
theorem dX7_undo_26 : decode cX7_undo 26 = .ok (.if_icmp .ge 30, 3) := by decide +kernel
theorem dX7_undo_29 : decode cX7_undo 29 = .ok (.aload_n 0, 1) := by decide +kernel
theorem dX7_undo_30 : decode cX7_undo 30 = .ok (.getfield 7, 3) := by decide +kernel
theorem dX7_undo_33 : decode cX7_undo 33 = .ok (.iload_n 1, 1) := by decide +kernel
theorem dX7_undo_34 : decode cX7_undo 34 = .ok (.aload_n 0, 1) := by decide +kernel
theorem dX7_undo_35 : decode cX7_undo 35 = .ok (.getfield 13, 3) := by decide +kernel
theorem dX7_undo_38 : decode cX7_undo 38 = .ok (.sipush 7157, 3) := by decide +kernel
theorem dX7_undo_41 : decode cX7_undo 41 = .ok (.aload_n 0, 1) := by decide +kernel
theorem dX7_undo_42 : decode cX7_undo 42 = .ok (.getfield 45, 3) := by decide +kernel
theorem dX7_undo_45 : decode cX7_undo 45 = .ok (.imul, 1) := by decide +kernel
theorem dX7_undo_46 : decode cX7_undo 46 = .ok (.iload_n 1, 1) := by decide +kernel
theorem dX7_undo_47 : decode cX7_undo 47 = .ok (.iadd, 1) := by decide +kernel
theorem dX7_undo_48 : decode cX7_undo 48 = .ok (.laload, 1) := by decide +kernel
theorem dX7_undo_49 : decode cX7_undo 49 = .ok (.lastore, 1) := by decide +kernel
theorem dX7_undo_50 : decode cX7_undo 50 = .ok (.iinc 1 1, 3) := by decide +kernel
theorem dX7_undo_53 : decode cX7_undo 53 = .ok (.goto (-31), 3) := by decide +kernel
theorem dX7_undo_56 : decode cX7_undo 56 = .ok (.aload_n 0, 1) := by decide +kernel
theorem dX7_undo_57 : decode cX7_undo 57 = .ok (.getfield 45, 3) := by decide +kernel
theorem dX7_undo_60 : decode cX7_undo 60 = .ok (.ireturn, 1) := by decide +kernel
set_option maxRecDepth 20000 in
theorem ggX7_keep_X7_allHours : GoodIn wsX7_keep wsX7_allHours := goodIn_r _ [8, 9, 10, 11, 7, 12, 13, 14, 15, 16, 17, 18, 19, 20, 21, 2, 22, 23, 24, 25, 26, 27, 28, 29, 30, 31, 32, 33, 34, 35, 36, 37, 38, 39, 40, 41, 42, 43, 44, 45, 46, 47, 48] (by decide +kernel) (by decide +kernel)
set_option maxRecDepth 20000 in
theorem gX7_keep_X7_allHours : GoodIn wsX7_keep (wsV RX7 164 RX7 yX7_allHours wsX7_allHours) := goodIn_app (goodIn_of _ (by decide +kernel)) ggX7_keep_X7_allHours
theorem dX7_keep_0 : decode cX7_keep 0 = .ok (.iconst 0, 1) := by decide +kernel
theorem dX7_keep_1 : decode cX7_keep 1 = .ok (.istore_n 1, 1) := by decide +kernel
theorem dX7_keep_2 : decode cX7_keep 2 = .ok (.iload_n 1, 1) := by decide +kernel
theorem dX7_keep_3 : decode cX7_keep 3 = .ok (.sipush 7157, 3) := by decide +kernel
theorem dX7_keep_6 : decode cX7_keep 6 = .ok (.if_icmp .ge 21, 3) := by decide +kernel
theorem dX7_keep_9 : decode cX7_keep 9 = .ok (.aload_n 0, 1) := by decide +kernel
theorem dX7_keep_10 : decode cX7_keep 10 = .ok (.getfield 16, 3) := by decide +kernel
theorem dX7_keep_13 : decode cX7_keep 13 = .ok (.iload_n 1, 1) := by decide +kernel
theorem dX7_keep_14 : decode cX7_keep 14 = .ok (.aload_n 0, 1) := by decide +kernel
theorem dX7_keep_15 : decode cX7_keep 15 = .ok (.getfield 7, 3) := by decide +kernel
theorem dX7_keep_18 : decode cX7_keep 18 = .ok (.iload_n 1, 1) := by decide +kernel
theorem dX7_keep_19 : decode cX7_keep 19 = .ok (.laload, 1) := by decide +kernel
theorem dX7_keep_20 : decode cX7_keep 20 = .ok (.lastore, 1) := by decide +kernel
theorem dX7_keep_21 : decode cX7_keep 21 = .ok (.iinc 1 1, 3) := by decide +kernel
theorem dX7_keep_24 : decode cX7_keep 24 = .ok (.goto (-22), 3) := by decide +kernel
theorem dX7_keep_27 : decode cX7_keep 27 = .ok (.aload_n 0, 1) := by decide +kernel
theorem dX7_keep_28 : decode cX7_keep 28 = .ok (.iconst 1, 1) := by decide +kernel
theorem dX7_keep_29 : decode cX7_keep 29 = .ok (.putfield 160, 3) := by decide +kernel
theorem dX7_keep_32 : decode cX7_keep 32 = .ok (.aload_n 0, 1) := by decide +kernel
theorem dX7_keep_33 : decode cX7_keep 33 = .ok (.iconst 0, 1) := by decide +kernel
theorem dX7_keep_34 : decode cX7_keep 34 = .ok (.invokevirtual 164, 3) := by decide +kernel
theorem dX7_keep_37 : decode cX7_keep 37 = .ok (.ireturn, 1) := by decide +kernel
set_option maxRecDepth 20000 in
theorem ggX7_restore_X7_remembers : GoodIn wsX7_restore wsX7_remembers := goodIn_r _ [8, 9, 10, 2, 44, 45, 46, 47, 48, 49, 50, 51, 52, 53, 54] (by decide +kernel) (by decide +kernel)
set_option maxRecDepth 20000 in
theorem gX7_restore_X7_remembers : GoodIn wsX7_restore (wsV RX7 88 RX7 yX7_remembers wsX7_remembers) := goodIn_app (goodIn_of _ (by decide +kernel)) ggX7_restore_X7_remembers
set_option maxRecDepth 20000 in
theorem ggX7_restore_X7_allHours : GoodIn wsX7_restore wsX7_allHours := goodIn_r _ [14, 15, 16, 17, 7, 18, 19, 20, 21, 22, 23, 24, 25, 26, 27, 2, 28, 29, 30, 31, 32, 33, 34, 35, 36, 37, 38, 39, 40, 41, 42, 43, 44, 45, 46, 47, 48, 49, 50, 51, 52, 53, 54] (by decide +kernel) (by decide +kernel)
set_option maxRecDepth 20000 in
theorem gX7_restore_X7_allHours : GoodIn wsX7_restore (wsV RX7 164 RX7 yX7_allHours wsX7_allHours) := goodIn_app (goodIn_of _ (by decide +kernel)) ggX7_restore_X7_allHours
theorem dX7_restore_0 : decode cX7_restore 0 = .ok (.aload_n 0, 1) := by decide +kernel
theorem dX7_restore_1 : decode cX7_restore 1 = .ok (.getfield 160, 3) := by decide +kernel
theorem dX7_restore_4 : decode cX7_restore 4 = .ok (.ifCond .ne 6, 3) := by decide +kernel
theorem dX7_restore_7 : decode cX7_restore 7 = .ok (.bipush (-5), 2) := by decide +kernel
theorem dX7_restore_9 : decode cX7_restore 9 = .ok (.ireturn, 1) := by decide +kernel
theorem dX7_restore_10 : decode cX7_restore 10 = .ok (.aload_n 0, 1) := by decide +kernel
theorem dX7_restore_11 : decode cX7_restore 11 = .ok (.invokevirtual 88, 3) := by decide +kernel
theorem dX7_restore_14 : decode cX7_restore 14 = .ok (.iconst 0, 1) := by decide +kernel
theorem dX7_restore_15 : decode cX7_restore 15 = .ok (.istore_n 1, 1) := by decide +kernel
theorem dX7_restore_16 : decode cX7_restore 16 = .ok (.iload_n 1, 1) := by decide +kernel
theorem dX7_restore_17 : decode cX7_restore 17 = .ok (.sipush 7157, 3) := by decide +kernel
theorem dX7_restore_20 : decode cX7_restore 20 = .ok (.if_icmp .ge 21, 3) := by decide +kernel
theorem dX7_restore_23 : decode cX7_restore 23 = .ok (.aload_n 0, 1) := by decide +kernel
theorem dX7_restore_24 : decode cX7_restore 24 = .ok (.getfield 7, 3) := by decide +kernel
theorem dX7_restore_27 : decode cX7_restore 27 = .ok (.iload_n 1, 1) := by decide +kernel
theorem dX7_restore_28 : decode cX7_restore 28 = .ok (.aload_n 0, 1) := by decide +kernel
theorem dX7_restore_29 : decode cX7_restore 29 = .ok (.getfield 16, 3) := by decide +kernel
theorem dX7_restore_32 : decode cX7_restore 32 = .ok (.iload_n 1, 1) := by decide +kernel
theorem dX7_restore_33 : decode cX7_restore 33 = .ok (.laload, 1) := by decide +kernel
theorem dX7_restore_34 : decode cX7_restore 34 = .ok (.lastore, 1) := by decide +kernel
theorem dX7_restore_35 : decode cX7_restore 35 = .ok (.iinc 1 1, 3) := by decide +kernel
theorem dX7_restore_38 : decode cX7_restore 38 = .ok (.goto (-22), 3) := by decide +kernel
theorem dX7_restore_41 : decode cX7_restore 41 = .ok (.aload_n 0, 1) := by decide +kernel
theorem dX7_restore_42 : decode cX7_restore 42 = .ok (.iconst 0, 1) := by decide +kernel
theorem dX7_restore_43 : decode cX7_restore 43 = .ok (.invokevirtual 164, 3) := by decide +kernel
theorem dX7_restore_46 : decode cX7_restore 46 = .ok (.ireturn, 1) := by decide +kernel
theorem dX7_ofDirection_0 : decode cX7_ofDirection 0 = .ok (.aload_n 0, 1) := by decide +kernel
theorem dX7_ofDirection_1 : decode cX7_ofDirection 1 = .ok (.getfield 23, 3) := by decide +kernel
theorem dX7_ofDirection_4 : decode cX7_ofDirection 4 = .ok (.iconst 3, 1) := by decide +kernel
theorem dX7_ofDirection_5 : decode cX7_ofDirection 5 = .ok (.iload_n 1, 1) := by decide +kernel
theorem dX7_ofDirection_6 : decode cX7_ofDirection 6 = .ok (.imul, 1) := by decide +kernel
theorem dX7_ofDirection_7 : decode cX7_ofDirection 7 = .ok (.iaload, 1) := by decide +kernel
theorem dX7_ofDirection_8 : decode cX7_ofDirection 8 = .ok (.aload_n 0, 1) := by decide +kernel
theorem dX7_ofDirection_9 : decode cX7_ofDirection 9 = .ok (.getfield 23, 3) := by decide +kernel
theorem dX7_ofDirection_12 : decode cX7_ofDirection 12 = .ok (.iconst 3, 1) := by decide +kernel
theorem dX7_ofDirection_13 : decode cX7_ofDirection 13 = .ok (.iload_n 1, 1) := by decide +kernel
theorem dX7_ofDirection_14 : decode cX7_ofDirection 14 = .ok (.imul, 1) := by decide +kernel
theorem dX7_ofDirection_15 : decode cX7_ofDirection 15 = .ok (.iconst 1, 1) := by decide +kernel
theorem dX7_ofDirection_16 : decode cX7_ofDirection 16 = .ok (.iadd, 1) := by decide +kernel
theorem dX7_ofDirection_17 : decode cX7_ofDirection 17 = .ok (.iaload, 1) := by decide +kernel
theorem dX7_ofDirection_18 : decode cX7_ofDirection 18 = .ok (.iadd, 1) := by decide +kernel
theorem dX7_ofDirection_19 : decode cX7_ofDirection 19 = .ok (.aload_n 0, 1) := by decide +kernel
theorem dX7_ofDirection_20 : decode cX7_ofDirection 20 = .ok (.getfield 23, 3) := by decide +kernel
theorem dX7_ofDirection_23 : decode cX7_ofDirection 23 = .ok (.iconst 3, 1) := by decide +kernel
theorem dX7_ofDirection_24 : decode cX7_ofDirection 24 = .ok (.iload_n 1, 1) := by decide +kernel
theorem dX7_ofDirection_25 : decode cX7_ofDirection 25 = .ok (.imul, 1) := by decide +kernel
theorem dX7_ofDirection_26 : decode cX7_ofDirection 26 = .ok (.iconst 2, 1) := by decide +kernel
theorem dX7_ofDirection_27 : decode cX7_ofDirection 27 = .ok (.iadd, 1) := by decide +kernel
theorem dX7_ofDirection_28 : decode cX7_ofDirection 28 = .ok (.iaload, 1) := by decide +kernel
theorem dX7_ofDirection_29 : decode cX7_ofDirection 29 = .ok (.iadd, 1) := by decide +kernel
theorem dX7_ofDirection_30 : decode cX7_ofDirection 30 = .ok (.ireturn, 1) := by decide +kernel
theorem dX7_ofKind_0 : decode cX7_ofKind 0 = .ok (.iconst 0, 1) := by decide +kernel
theorem dX7_ofKind_1 : decode cX7_ofKind 1 = .ok (.istore_n 2, 1) := by decide +kernel
theorem dX7_ofKind_2 : decode cX7_ofKind 2 = .ok (.iconst 0, 1) := by decide +kernel
theorem dX7_ofKind_3 : decode cX7_ofKind 3 = .ok (.istore_n 3, 1) := by decide +kernel
theorem dX7_ofKind_4 : decode cX7_ofKind 4 = .ok (.iload_n 3, 1) := by decide +kernel
theorem dX7_ofKind_5 : decode cX7_ofKind 5 = .ok (.bipush 16, 2) := by decide +kernel
theorem dX7_ofKind_7 : decode cX7_ofKind 7 = .ok (.if_icmp .ge 22, 3) := by decide +kernel
theorem dX7_ofKind_10 : decode cX7_ofKind 10 = .ok (.iload_n 2, 1) := by decide +kernel
theorem dX7_ofKind_11 : decode cX7_ofKind 11 = .ok (.aload_n 0, 1) := by decide +kernel
theorem dX7_ofKind_12 : decode cX7_ofKind 12 = .ok (.getfield 23, 3) := by decide +kernel
theorem dX7_ofKind_15 : decode cX7_ofKind 15 = .ok (.iconst 3, 1) := by decide +kernel
theorem dX7_ofKind_16 : decode cX7_ofKind 16 = .ok (.iload_n 3, 1) := by decide +kernel
theorem dX7_ofKind_17 : decode cX7_ofKind 17 = .ok (.imul, 1) := by decide +kernel
theorem dX7_ofKind_18 : decode cX7_ofKind 18 = .ok (.iload_n 1, 1) := by decide +kernel
theorem dX7_ofKind_19 : decode cX7_ofKind 19 = .ok (.iadd, 1) := by decide +kernel
theorem dX7_ofKind_20 : decode cX7_ofKind 20 = .ok (.iaload, 1) := by decide +kernel
theorem dX7_ofKind_21 : decode cX7_ofKind 21 = .ok (.iadd, 1) := by decide +kernel
theorem dX7_ofKind_22 : decode cX7_ofKind 22 = .ok (.istore_n 2, 1) := by decide +kernel
theorem dX7_ofKind_23 : decode cX7_ofKind 23 = .ok (.iinc 3 1, 3) := by decide +kernel
theorem dX7_ofKind_26 : decode cX7_ofKind 26 = .ok (.goto (-22), 3) := by decide +kernel
theorem dX7_ofKind_29 : decode cX7_ofKind 29 = .ok (.iload_n 2, 1) := by decide +kernel
theorem dX7_ofKind_30 : decode cX7_ofKind 30 = .ok (.ireturn, 1) := by decide +kernel
set_option maxRecDepth 20000 in
theorem ggX7_greatestSpeed_X7_at : GoodIn wsX7_greatestSpeed wsX7_at := goodIn_r _ [5, 6, 7, 8, 9, 4, 10, 11, 12, 13, 14, 15, 16, 17, 18, 19, 20, 21] (by decide +kernel) (by decide +kernel)
set_option maxRecDepth 20000 in
theorem gX7_greatestSpeed_X7_at : GoodIn wsX7_greatestSpeed (wsV RX7 55 RX7 yX7_at wsX7_at) := goodIn_app (goodIn_of _ (by decide +kernel)) ggX7_greatestSpeed_X7_at
theorem dX7_greatestSpeed_0 : decode cX7_greatestSpeed 0 = .ok (.bipush (-5), 2) := by decide +kernel
theorem dX7_greatestSpeed_2 : decode cX7_greatestSpeed 2 = .ok (.istore_n 2, 1) := by decide +kernel
theorem dX7_greatestSpeed_3 : decode cX7_greatestSpeed 3 = .ok (.iconst 1, 1) := by decide +kernel
theorem dX7_greatestSpeed_4 : decode cX7_greatestSpeed 4 = .ok (.istore_n 3, 1) := by decide +kernel
theorem dX7_greatestSpeed_5 : decode cX7_greatestSpeed 5 = .ok (.iload_n 3, 1) := by decide +kernel
theorem dX7_greatestSpeed_6 : decode cX7_greatestSpeed 6 = .ok (.bipush 99, 2) := by decide +kernel
theorem dX7_greatestSpeed_8 : decode cX7_greatestSpeed 8 = .ok (.if_icmp .gt 42, 3) := by decide +kernel
theorem dX7_greatestSpeed_11 : decode cX7_greatestSpeed 11 = .ok (.iconst 0, 1) := by decide +kernel
theorem dX7_greatestSpeed_12 : decode cX7_greatestSpeed 12 = .ok (.istore 4, 2) := by decide +kernel
theorem dX7_greatestSpeed_14 : decode cX7_greatestSpeed 14 = .ok (.iload 4, 2) := by decide +kernel
theorem dX7_greatestSpeed_16 : decode cX7_greatestSpeed 16 = .ok (.bipush 16, 2) := by decide +kernel
theorem dX7_greatestSpeed_18 : decode cX7_greatestSpeed 18 = .ok (.if_icmp .ge 26, 3) := by decide +kernel
theorem dX7_greatestSpeed_21 : decode cX7_greatestSpeed 21 = .ok (.aload_n 0, 1) := by decide +kernel
theorem dX7_greatestSpeed_22 : decode cX7_greatestSpeed 22 = .ok (.iload_n 1, 1) := by decide +kernel
theorem dX7_greatestSpeed_23 : decode cX7_greatestSpeed 23 = .ok (.iload 4, 2) := by decide +kernel
theorem dX7_greatestSpeed_25 : decode cX7_greatestSpeed 25 = .ok (.iload_n 3, 1) := by decide +kernel
theorem dX7_greatestSpeed_26 : decode cX7_greatestSpeed 26 = .ok (.invokevirtual 55, 3) := by decide +kernel
theorem dX7_greatestSpeed_29 : decode cX7_greatestSpeed 29 = .ok (.ifCond .le 7, 3) := by decide +kernel
theorem dX7_greatestSpeed_32 : decode cX7_greatestSpeed 32 = .ok (.iload_n 3, 1) := by decide +kernel
theorem dX7_greatestSpeed_33 : decode cX7_greatestSpeed 33 = .ok (.goto 4, 3) := by decide +kernel
theorem dX7_greatestSpeed_36 : decode cX7_greatestSpeed 36 = .ok (.iload_n 2, 1) := by decide +kernel
theorem dX7_greatestSpeed_37 : decode cX7_greatestSpeed 37 = .ok (.istore_n 2, 1) := by decide +kernel
theorem dX7_greatestSpeed_38 : decode cX7_greatestSpeed 38 = .ok (.iinc 4 1, 3) := by decide +kernel
theorem dX7_greatestSpeed_41 : decode cX7_greatestSpeed 41 = .ok (.goto (-27), 3) := by decide +kernel
theorem dX7_greatestSpeed_44 : decode cX7_greatestSpeed 44 = .ok (.iinc 3 1, 3) := by decide +kernel
theorem dX7_greatestSpeed_47 : decode cX7_greatestSpeed 47 = .ok (.goto (-42), 3) := by decide +kernel
theorem dX7_greatestSpeed_50 : decode cX7_greatestSpeed 50 = .ok (.iload_n 2, 1) := by decide +kernel
theorem dX7_greatestSpeed_51 : decode cX7_greatestSpeed 51 = .ok (.ireturn, 1) := by decide +kernel
set_option maxRecDepth 20000 in
theorem ggX7_meanSpeed_X7_looks : GoodIn wsX7_meanSpeed wsX7_looks := goodIn_r _ [5, 6, 7, 8, 9, 4, 10, 11, 12, 13, 14, 15, 16, 17, 18, 19, 20, 21, 22, 23, 24, 25, 26, 27, 28, 29, 30] (by decide +kernel) (by decide +kernel)
set_option maxRecDepth 20000 in
theorem gX7_meanSpeed_X7_looks : GoodIn wsX7_meanSpeed (wsV RX7 65 RX7 yX7_looks wsX7_looks) := goodIn_app (goodIn_of _ (by decide +kernel)) ggX7_meanSpeed_X7_looks
set_option maxRecDepth 20000 in
theorem ggX7_meanSpeed_X7_at : GoodIn wsX7_meanSpeed wsX7_at := goodIn_r _ [10, 11, 12, 13, 14, 4, 15, 20, 21, 22, 23, 24, 25, 26, 27, 28, 29, 30] (by decide +kernel) (by decide +kernel)
set_option maxRecDepth 20000 in
theorem gX7_meanSpeed_X7_at : GoodIn wsX7_meanSpeed (wsV RX7 55 RX7 yX7_at wsX7_at) := goodIn_app (goodIn_of _ (by decide +kernel)) ggX7_meanSpeed_X7_at
theorem dX7_meanSpeed_0 : decode cX7_meanSpeed 0 = .ok (.aload_n 0, 1) := by decide +kernel
theorem dX7_meanSpeed_1 : decode cX7_meanSpeed 1 = .ok (.iload_n 1, 1) := by decide +kernel
theorem dX7_meanSpeed_2 : decode cX7_meanSpeed 2 = .ok (.invokevirtual 65, 3) := by decide +kernel
theorem dX7_meanSpeed_5 : decode cX7_meanSpeed 5 = .ok (.istore_n 2, 1) := by decide +kernel
theorem dX7_meanSpeed_6 : decode cX7_meanSpeed 6 = .ok (.iconst 0, 1) := by decide +kernel
theorem dX7_meanSpeed_7 : decode cX7_meanSpeed 7 = .ok (.istore_n 3, 1) := by decide +kernel
theorem dX7_meanSpeed_8 : decode cX7_meanSpeed 8 = .ok (.iconst 1, 1) := by decide +kernel
theorem dX7_meanSpeed_9 : decode cX7_meanSpeed 9 = .ok (.istore 4, 2) := by decide +kernel
theorem dX7_meanSpeed_11 : decode cX7_meanSpeed 11 = .ok (.iload 4, 2) := by decide +kernel
theorem dX7_meanSpeed_13 : decode cX7_meanSpeed 13 = .ok (.bipush 99, 2) := by decide +kernel
theorem dX7_meanSpeed_15 : decode cX7_meanSpeed 15 = .ok (.if_icmp .gt 40, 3) := by decide +kernel
theorem dX7_meanSpeed_18 : decode cX7_meanSpeed 18 = .ok (.iconst 0, 1) := by decide +kernel
theorem dX7_meanSpeed_19 : decode cX7_meanSpeed 19 = .ok (.istore 5, 2) := by decide +kernel
theorem dX7_meanSpeed_21 : decode cX7_meanSpeed 21 = .ok (.iload 5, 2) := by decide +kernel
theorem dX7_meanSpeed_23 : decode cX7_meanSpeed 23 = .ok (.bipush 16, 2) := by decide +kernel
theorem dX7_meanSpeed_25 : decode cX7_meanSpeed 25 = .ok (.if_icmp .ge 24, 3) := by decide +kernel
theorem dX7_meanSpeed_28 : decode cX7_meanSpeed 28 = .ok (.iload_n 3, 1) := by decide +kernel
theorem dX7_meanSpeed_29 : decode cX7_meanSpeed 29 = .ok (.iload 4, 2) := by decide +kernel
theorem dX7_meanSpeed_31 : decode cX7_meanSpeed 31 = .ok (.aload_n 0, 1) := by decide +kernel
theorem dX7_meanSpeed_32 : decode cX7_meanSpeed 32 = .ok (.iload_n 1, 1) := by decide +kernel
theorem dX7_meanSpeed_33 : decode cX7_meanSpeed 33 = .ok (.iload 5, 2) := by decide +kernel
theorem dX7_meanSpeed_35 : decode cX7_meanSpeed 35 = .ok (.iload 4, 2) := by decide +kernel
theorem dX7_meanSpeed_37 : decode cX7_meanSpeed 37 = .ok (.invokevirtual 55, 3) := by decide +kernel
theorem dX7_meanSpeed_40 : decode cX7_meanSpeed 40 = .ok (.imul, 1) := by decide +kernel
theorem dX7_meanSpeed_41 : decode cX7_meanSpeed 41 = .ok (.iadd, 1) := by decide +kernel
theorem dX7_meanSpeed_42 : decode cX7_meanSpeed 42 = .ok (.istore_n 3, 1) := by decide +kernel
theorem dX7_meanSpeed_43 : decode cX7_meanSpeed 43 = .ok (.iinc 5 1, 3) := by decide +kernel
theorem dX7_meanSpeed_46 : decode cX7_meanSpeed 46 = .ok (.goto (-25), 3) := by decide +kernel
theorem dX7_meanSpeed_49 : decode cX7_meanSpeed 49 = .ok (.iinc 4 1, 3) := by decide +kernel
theorem dX7_meanSpeed_52 : decode cX7_meanSpeed 52 = .ok (.goto (-41), 3) := by decide +kernel
theorem dX7_meanSpeed_55 : decode cX7_meanSpeed 55 = .ok (.iload_n 2, 1) := by decide +kernel
theorem dX7_meanSpeed_56 : decode cX7_meanSpeed 56 = .ok (.ifCond .ne 8, 3) := by decide +kernel
theorem dX7_meanSpeed_59 : decode cX7_meanSpeed 59 = .ok (.bipush (-5), 2) := by decide +kernel
theorem dX7_meanSpeed_61 : decode cX7_meanSpeed 61 = .ok (.goto 6, 3) := by decide +kernel
theorem dX7_meanSpeed_64 : decode cX7_meanSpeed 64 = .ok (.iload_n 3, 1) := by decide +kernel
theorem dX7_meanSpeed_65 : decode cX7_meanSpeed 65 = .ok (.iload_n 2, 1) := by decide +kernel
theorem dX7_meanSpeed_66 : decode cX7_meanSpeed 66 = .ok (.idiv, 1) := by decide +kernel
theorem dX7_meanSpeed_67 : decode cX7_meanSpeed 67 = .ok (.ireturn, 1) := by decide +kernel
set_option maxRecDepth 20000 in
theorem ggX7_prevailing_X7_looks : GoodIn wsX7_prevailing wsX7_looks := goodIn_r _ [5, 6, 7, 8, 9, 4, 10, 11, 12, 13, 14, 15, 16, 17, 18, 19, 24, 25, 26, 27, 28, 29, 30, 31, 32, 33, 34] (by decide +kernel) (by decide +kernel)
set_option maxRecDepth 20000 in
theorem gX7_prevailing_X7_looks : GoodIn wsX7_prevailing (wsV RX7 65 RX7 yX7_looks wsX7_looks) := goodIn_app (goodIn_of _ (by decide +kernel)) ggX7_prevailing_X7_looks
set_option maxRecDepth 20000 in
theorem ggX7_prevailing_X7_ofDirection : GoodIn wsX7_prevailing wsX7_ofDirection := goodIn_r _ [23, 6, 24, 25, 26, 27, 28, 29, 30, 31, 32, 33, 34] (by decide +kernel) (by decide +kernel)
set_option maxRecDepth 20000 in
theorem gX7_prevailing_X7_ofDirection : GoodIn wsX7_prevailing (wsV RX7 167 RX7 yX7_ofDirection wsX7_ofDirection) := goodIn_app (goodIn_of _ (by decide +kernel)) ggX7_prevailing_X7_ofDirection
theorem dX7_prevailing_0 : decode cX7_prevailing 0 = .ok (.aload_n 0, 1) := by decide +kernel
theorem dX7_prevailing_1 : decode cX7_prevailing 1 = .ok (.iload_n 1, 1) := by decide +kernel
theorem dX7_prevailing_2 : decode cX7_prevailing 2 = .ok (.invokevirtual 65, 3) := by decide +kernel
theorem dX7_prevailing_5 : decode cX7_prevailing 5 = .ok (.istore_n 2, 1) := by decide +kernel
theorem dX7_prevailing_6 : decode cX7_prevailing 6 = .ok (.iconst 0, 1) := by decide +kernel
theorem dX7_prevailing_7 : decode cX7_prevailing 7 = .ok (.istore_n 3, 1) := by decide +kernel
theorem dX7_prevailing_8 : decode cX7_prevailing 8 = .ok (.iconst 1, 1) := by decide +kernel
theorem dX7_prevailing_9 : decode cX7_prevailing 9 = .ok (.istore 4, 2) := by decide +kernel
theorem dX7_prevailing_11 : decode cX7_prevailing 11 = .ok (.iload 4, 2) := by decide +kernel
theorem dX7_prevailing_13 : decode cX7_prevailing 13 = .ok (.bipush 16, 2) := by decide +kernel
theorem dX7_prevailing_15 : decode cX7_prevailing 15 = .ok (.if_icmp .ge 30, 3) := by decide +kernel
theorem dX7_prevailing_18 : decode cX7_prevailing 18 = .ok (.aload_n 0, 1) := by decide +kernel
theorem dX7_prevailing_19 : decode cX7_prevailing 19 = .ok (.iload 4, 2) := by decide +kernel
theorem dX7_prevailing_21 : decode cX7_prevailing 21 = .ok (.invokevirtual 167, 3) := by decide +kernel
theorem dX7_prevailing_24 : decode cX7_prevailing 24 = .ok (.aload_n 0, 1) := by decide +kernel
theorem dX7_prevailing_25 : decode cX7_prevailing 25 = .ok (.iload_n 3, 1) := by decide +kernel
theorem dX7_prevailing_26 : decode cX7_prevailing 26 = .ok (.invokevirtual 167, 3) := by decide +kernel
theorem dX7_prevailing_29 : decode cX7_prevailing 29 = .ok (.if_icmp .le 8, 3) := by decide +kernel
theorem dX7_prevailing_32 : decode cX7_prevailing 32 = .ok (.iload 4, 2) := by decide +kernel
theorem dX7_prevailing_34 : decode cX7_prevailing 34 = .ok (.goto 4, 3) := by decide +kernel
theorem dX7_prevailing_37 : decode cX7_prevailing 37 = .ok (.iload_n 3, 1) := by decide +kernel
theorem dX7_prevailing_38 : decode cX7_prevailing 38 = .ok (.istore_n 3, 1) := by decide +kernel
theorem dX7_prevailing_39 : decode cX7_prevailing 39 = .ok (.iinc 4 1, 3) := by decide +kernel
theorem dX7_prevailing_42 : decode cX7_prevailing 42 = .ok (.goto (-31), 3) := by decide +kernel
theorem dX7_prevailing_45 : decode cX7_prevailing 45 = .ok (.iload_n 2, 1) := by decide +kernel
theorem dX7_prevailing_46 : decode cX7_prevailing 46 = .ok (.ifCond .ne 8, 3) := by decide +kernel
theorem dX7_prevailing_49 : decode cX7_prevailing 49 = .ok (.bipush (-5), 2) := by decide +kernel
theorem dX7_prevailing_51 : decode cX7_prevailing 51 = .ok (.goto 4, 3) := by decide +kernel
theorem dX7_prevailing_54 : decode cX7_prevailing 54 = .ok (.iload_n 3, 1) := by decide +kernel
theorem dX7_prevailing_55 : decode cX7_prevailing 55 = .ok (.ireturn, 1) := by decide +kernel
set_option maxRecDepth 20000 in
theorem ggX7_ofRose_X7_looks : GoodIn wsX7_ofRose wsX7_looks := goodIn_r _ [5, 6, 7, 8, 9, 4, 10, 11, 12, 13, 14, 15, 16, 17, 18, 19, 56, 57, 58, 59, 60, 61, 62, 63, 64, 65, 66] (by decide +kernel) (by decide +kernel)
set_option maxRecDepth 20000 in
theorem gX7_ofRose_X7_looks : GoodIn wsX7_ofRose (wsV RX7 65 RX7 yX7_looks wsX7_looks) := goodIn_app (goodIn_of _ (by decide +kernel)) ggX7_ofRose_X7_looks
set_option maxRecDepth 20000 in
theorem ggX7_ofRose_X7_calmOf : GoodIn wsX7_ofRose wsX7_calmOf := goodIn_r _ [23, 24, 25, 26, 4, 27, 11, 56, 57, 58, 59, 60, 61, 62, 63, 64, 65, 66] (by decide +kernel) (by decide +kernel)
set_option maxRecDepth 20000 in
theorem gX7_ofRose_X7_calmOf : GoodIn wsX7_ofRose (wsV RX7 68 RX7 yX7_calmOf wsX7_calmOf) := goodIn_app (goodIn_of _ (by decide +kernel)) ggX7_ofRose_X7_calmOf
set_option maxRecDepth 20000 in
theorem ggX7_ofRose_X7_calmShare : GoodIn wsX7_ofRose wsX7_calmShare := goodIn_r _ [31, 32, 33, 34, 4, 35, 1, 2, 3, 5, 6, 7, 8, 9, 10, 11, 12, 13, 14, 15, 16, 17, 18, 19, 20, 21, 22, 23, 24, 25, 26, 27, 56, 57, 58, 59, 60, 61, 62, 63, 64, 65, 66] (by decide +kernel) (by decide +kernel)
set_option maxRecDepth 20000 in
theorem gX7_ofRose_X7_calmShare : GoodIn wsX7_ofRose (wsV RX7 95 RX7 yX7_calmShare wsX7_calmShare) := goodIn_app (goodIn_of _ (by decide +kernel)) ggX7_ofRose_X7_calmShare
set_option maxRecDepth 20000 in
theorem ggX7_ofRose_X7_greatestSpeed : GoodIn wsX7_ofRose wsX7_greatestSpeed := goodIn_r _ [39, 7, 8, 9, 4, 10, 11, 12, 13, 14, 15, 56, 57, 58, 59, 60, 61, 62, 63, 64, 65, 66] (by decide +kernel) (by decide +kernel)
set_option maxRecDepth 20000 in
theorem gX7_ofRose_X7_greatestSpeed : GoodIn wsX7_ofRose (wsV RX7 170 RX7 yX7_greatestSpeed wsX7_greatestSpeed) := goodIn_app (goodIn_of _ (by decide +kernel)) ggX7_ofRose_X7_greatestSpeed
set_option maxRecDepth 20000 in
theorem ggX7_ofRose_X7_meanSpeed : GoodIn wsX7_ofRose wsX7_meanSpeed := goodIn_r _ [43, 1, 2, 3, 4, 5, 6, 7, 8, 9, 10, 11, 12, 13, 14, 15, 16, 17, 18, 19, 56, 57, 58, 59, 60, 61, 62, 63, 64, 65, 66] (by decide +kernel) (by decide +kernel)
set_option maxRecDepth 20000 in
theorem gX7_ofRose_X7_meanSpeed : GoodIn wsX7_ofRose (wsV RX7 173 RX7 yX7_meanSpeed wsX7_meanSpeed) := goodIn_app (goodIn_of _ (by decide +kernel)) ggX7_ofRose_X7_meanSpeed
set_option maxRecDepth 20000 in
theorem ggX7_ofRose_X7_ofKind : GoodIn wsX7_ofRose wsX7_ofKind := goodIn_r _ [47, 6, 56, 57, 58, 59, 60, 61, 62, 63, 64, 65, 66] (by decide +kernel) (by decide +kernel)
set_option maxRecDepth 20000 in
theorem gX7_ofRose_X7_ofKind : GoodIn wsX7_ofRose (wsV RX7 176 RX7 yX7_ofKind wsX7_ofKind) := goodIn_app (goodIn_of _ (by decide +kernel)) ggX7_ofRose_X7_ofKind
set_option maxRecDepth 20000 in
theorem ggX7_ofRose_X7_prevailing : GoodIn wsX7_ofRose wsX7_prevailing := goodIn_r _ [51, 1, 2, 3, 4, 5, 6, 7, 8, 9, 10, 11, 12, 13, 14, 15, 16, 17, 18, 19, 52, 53, 54, 55, 56, 57, 58, 59, 60, 61, 62, 63, 64, 65, 66] (by decide +kernel) (by decide +kernel)
set_option maxRecDepth 20000 in
theorem gX7_ofRose_X7_prevailing : GoodIn wsX7_ofRose (wsV RX7 179 RX7 yX7_prevailing wsX7_prevailing) := goodIn_app (goodIn_of _ (by decide +kernel)) ggX7_ofRose_X7_prevailing
theorem dX7_ofRose_0 : decode cX7_ofRose 0 = .ok (.aload_n 0, 1) := by decide +kernel
theorem dX7_ofRose_1 : decode cX7_ofRose 1 = .ok (.iload_n 1, 1) := by decide +kernel
theorem dX7_ofRose_2 : decode cX7_ofRose 2 = .ok (.invokevirtual 65, 3) := by decide +kernel
theorem dX7_ofRose_5 : decode cX7_ofRose 5 = .ok (.istore_n 3, 1) := by decide +kernel
theorem dX7_ofRose_6 : decode cX7_ofRose 6 = .ok (.iload_n 2, 1) := by decide +kernel
theorem dX7_ofRose_7 : decode cX7_ofRose 7 = .ok (.tableswitch 92 0 8 #[49, 57, 59, 65, 71, 77, 83, 83, 83], 49) := by decide +kernel
theorem dX7_ofRose_56 : decode cX7_ofRose 56 = .ok (.iload_n 3, 1) := by decide +kernel
theorem dX7_ofRose_57 : decode cX7_ofRose 57 = .ok (.aload_n 0, 1) := by decide +kernel
theorem dX7_ofRose_58 : decode cX7_ofRose 58 = .ok (.iload_n 1, 1) := by decide +kernel
theorem dX7_ofRose_59 : decode cX7_ofRose 59 = .ok (.invokevirtual 68, 3) := by decide +kernel
theorem dX7_ofRose_62 : decode cX7_ofRose 62 = .ok (.iadd, 1) := by decide +kernel
theorem dX7_ofRose_63 : decode cX7_ofRose 63 = .ok (.ireturn, 1) := by decide +kernel
theorem dX7_ofRose_64 : decode cX7_ofRose 64 = .ok (.iload_n 3, 1) := by decide +kernel
theorem dX7_ofRose_65 : decode cX7_ofRose 65 = .ok (.ireturn, 1) := by decide +kernel
theorem dX7_ofRose_66 : decode cX7_ofRose 66 = .ok (.aload_n 0, 1) := by decide +kernel
theorem dX7_ofRose_67 : decode cX7_ofRose 67 = .ok (.iload_n 1, 1) := by decide +kernel
theorem dX7_ofRose_68 : decode cX7_ofRose 68 = .ok (.invokevirtual 68, 3) := by decide +kernel
theorem dX7_ofRose_71 : decode cX7_ofRose 71 = .ok (.ireturn, 1) := by decide +kernel
theorem dX7_ofRose_72 : decode cX7_ofRose 72 = .ok (.aload_n 0, 1) := by decide +kernel
theorem dX7_ofRose_73 : decode cX7_ofRose 73 = .ok (.iload_n 1, 1) := by decide +kernel
theorem dX7_ofRose_74 : decode cX7_ofRose 74 = .ok (.invokevirtual 95, 3) := by decide +kernel
theorem dX7_ofRose_77 : decode cX7_ofRose 77 = .ok (.ireturn, 1) := by decide +kernel
theorem dX7_ofRose_78 : decode cX7_ofRose 78 = .ok (.aload_n 0, 1) := by decide +kernel
theorem dX7_ofRose_79 : decode cX7_ofRose 79 = .ok (.iload_n 1, 1) := by decide +kernel
theorem dX7_ofRose_80 : decode cX7_ofRose 80 = .ok (.invokevirtual 170, 3) := by decide +kernel
theorem dX7_ofRose_83 : decode cX7_ofRose 83 = .ok (.ireturn, 1) := by decide +kernel
theorem dX7_ofRose_84 : decode cX7_ofRose 84 = .ok (.aload_n 0, 1) := by decide +kernel
theorem dX7_ofRose_85 : decode cX7_ofRose 85 = .ok (.iload_n 1, 1) := by decide +kernel
theorem dX7_ofRose_86 : decode cX7_ofRose 86 = .ok (.invokevirtual 173, 3) := by decide +kernel
theorem dX7_ofRose_89 : decode cX7_ofRose 89 = .ok (.ireturn, 1) := by decide +kernel
theorem dX7_ofRose_90 : decode cX7_ofRose 90 = .ok (.aload_n 0, 1) := by decide +kernel
theorem dX7_ofRose_91 : decode cX7_ofRose 91 = .ok (.iload_n 2, 1) := by decide +kernel
theorem dX7_ofRose_92 : decode cX7_ofRose 92 = .ok (.bipush 6, 2) := by decide +kernel
theorem dX7_ofRose_94 : decode cX7_ofRose 94 = .ok (.isub, 1) := by decide +kernel
theorem dX7_ofRose_95 : decode cX7_ofRose 95 = .ok (.invokevirtual 176, 3) := by decide +kernel
theorem dX7_ofRose_98 : decode cX7_ofRose 98 = .ok (.ireturn, 1) := by decide +kernel
theorem dX7_ofRose_99 : decode cX7_ofRose 99 = .ok (.aload_n 0, 1) := by decide +kernel
theorem dX7_ofRose_100 : decode cX7_ofRose 100 = .ok (.iload_n 1, 1) := by decide +kernel
theorem dX7_ofRose_101 : decode cX7_ofRose 101 = .ok (.invokevirtual 179, 3) := by decide +kernel
theorem dX7_ofRose_104 : decode cX7_ofRose 104 = .ok (.ireturn, 1) := by decide +kernel
set_option maxRecDepth 20000 in
theorem ggX7_rose_X7_roseOf : GoodIn wsX7_rose wsX7_roseOf := goodIn_r _ [4, 5, 6, 3, 7, 8, 9, 10] (by decide +kernel) (by decide +kernel)
set_option maxRecDepth 20000 in
theorem gX7_rose_X7_roseOf : GoodIn wsX7_rose (va_wsS RX7 85 yX7_roseOf wsX7_roseOf) := goodIn_app (goodIn_of _ (by decide +kernel)) ggX7_rose_X7_roseOf
set_option maxRecDepth 20000 in
theorem ggX7_rose_X7_in : GoodIn wsX7_rose wsX7_in := goodIn_r _ [10] (by decide +kernel) (by decide +kernel)
set_option maxRecDepth 20000 in
theorem gX7_rose_X7_in : GoodIn wsX7_rose (va_wsS RX7 41 yX7_in wsX7_in) := goodIn_app (goodIn_of _ (by decide +kernel)) ggX7_rose_X7_in
set_option maxRecDepth 20000 in
theorem ggX7_rose_X7_ofRose : GoodIn wsX7_rose wsX7_ofRose := goodIn_r _ [14, 15, 16, 17, 3, 18, 19, 20, 21, 22, 23, 24, 25, 26, 27, 28, 29, 30, 31, 32, 33, 34, 35, 36, 37, 38, 39, 40, 41, 42, 43, 44, 45, 46, 47, 48, 49, 50, 51, 52, 53, 54, 55, 56, 57, 58, 59, 60, 61, 62, 63, 64, 65, 66, 67, 68, 69, 70, 71, 72, 73, 74, 75, 76, 77, 78, 79] (by decide +kernel) (by decide +kernel)
set_option maxRecDepth 20000 in
theorem gX7_rose_X7_ofRose : GoodIn wsX7_rose (wsV RX7 182 RX7 yX7_ofRose wsX7_ofRose) := goodIn_app (goodIn_of _ (by decide +kernel)) ggX7_rose_X7_ofRose
theorem dX7_rose_0 : decode cX7_rose 0 = .ok (.iload_n 1, 1) := by decide +kernel
theorem dX7_rose_1 : decode cX7_rose 1 = .ok (.iload_n 2, 1) := by decide +kernel
theorem dX7_rose_2 : decode cX7_rose 2 = .ok (.invokestatic 85, 3) := by decide +kernel
theorem dX7_rose_5 : decode cX7_rose 5 = .ok (.istore 4, 2) := by decide +kernel
theorem dX7_rose_7 : decode cX7_rose 7 = .ok (.iload 4, 2) := by decide +kernel
theorem dX7_rose_9 : decode cX7_rose 9 = .ok (.ifCond .ge 7, 3) := by decide +kernel
theorem dX7_rose_12 : decode cX7_rose 12 = .ok (.iconst (-1), 1) := by decide +kernel
theorem dX7_rose_13 : decode cX7_rose 13 = .ok (.goto 25, 3) := by decide +kernel
theorem dX7_rose_16 : decode cX7_rose 16 = .ok (.iload_n 3, 1) := by decide +kernel
theorem dX7_rose_17 : decode cX7_rose 17 = .ok (.iconst 0, 1) := by decide +kernel
theorem dX7_rose_18 : decode cX7_rose 18 = .ok (.bipush 9, 2) := by decide +kernel
theorem dX7_rose_20 : decode cX7_rose 20 = .ok (.invokestatic 41, 3) := by decide +kernel
theorem dX7_rose_23 : decode cX7_rose 23 = .ok (.ifCond .eq 13, 3) := by decide +kernel
theorem dX7_rose_26 : decode cX7_rose 26 = .ok (.aload_n 0, 1) := by decide +kernel
theorem dX7_rose_27 : decode cX7_rose 27 = .ok (.iload 4, 2) := by decide +kernel
theorem dX7_rose_29 : decode cX7_rose 29 = .ok (.iload_n 3, 1) := by decide +kernel
theorem dX7_rose_30 : decode cX7_rose 30 = .ok (.invokevirtual 182, 3) := by decide +kernel
theorem dX7_rose_33 : decode cX7_rose 33 = .ok (.goto 5, 3) := by decide +kernel
theorem dX7_rose_36 : decode cX7_rose 36 = .ok (.bipush (-2), 2) := by decide +kernel
theorem dX7_rose_38 : decode cX7_rose 38 = .ok (.ireturn, 1) := by decide +kernel
set_option maxRecDepth 20000 in
theorem ggX7_hours_X7_roseOf : GoodIn wsX7_hours wsX7_roseOf := goodIn_r _ [5, 6, 7, 4, 8, 9, 10, 11] (by decide +kernel) (by decide +kernel)
set_option maxRecDepth 20000 in
theorem gX7_hours_X7_roseOf : GoodIn wsX7_hours (va_wsS RX7 85 yX7_roseOf wsX7_roseOf) := goodIn_app (goodIn_of _ (by decide +kernel)) ggX7_hours_X7_roseOf
set_option maxRecDepth 20000 in
theorem ggX7_hours_X7_isDirection : GoodIn wsX7_hours wsX7_isDirection := goodIn_r _ [14, 9, 10, 4, 11] (by decide +kernel) (by decide +kernel)
set_option maxRecDepth 20000 in
theorem gX7_hours_X7_isDirection : GoodIn wsX7_hours (va_wsS RX7 82 yX7_isDirection wsX7_isDirection) := goodIn_app (goodIn_of _ (by decide +kernel)) ggX7_hours_X7_isDirection
set_option maxRecDepth 20000 in
theorem ggX7_hours_X7_in : GoodIn wsX7_hours wsX7_in := goodIn_r _ [11] (by decide +kernel) (by decide +kernel)
set_option maxRecDepth 20000 in
theorem gX7_hours_X7_in : GoodIn wsX7_hours (va_wsS RX7 41 yX7_in wsX7_in) := goodIn_app (goodIn_of _ (by decide +kernel)) ggX7_hours_X7_in
set_option maxRecDepth 20000 in
theorem ggX7_hours_X7_looks : GoodIn wsX7_hours wsX7_looks := goodIn_r _ [18, 1, 19, 20, 21, 4, 22, 23, 24, 25, 26, 27, 28, 29, 30, 31, 36, 37, 38, 39, 40, 41, 42, 43, 44, 45, 46] (by decide +kernel) (by decide +kernel)
set_option maxRecDepth 20000 in
theorem gX7_hours_X7_looks : GoodIn wsX7_hours (wsV RX7 65 RX7 yX7_looks wsX7_looks) := goodIn_app (goodIn_of _ (by decide +kernel)) ggX7_hours_X7_looks
set_option maxRecDepth 20000 in
theorem ggX7_hours_X7_ofDirection : GoodIn wsX7_hours wsX7_ofDirection := goodIn_r _ [35, 1, 36, 37, 38, 39, 40, 41, 42, 43, 44, 45, 46] (by decide +kernel) (by decide +kernel)
set_option maxRecDepth 20000 in
theorem gX7_hours_X7_ofDirection : GoodIn wsX7_hours (wsV RX7 167 RX7 yX7_ofDirection wsX7_ofDirection) := goodIn_app (goodIn_of _ (by decide +kernel)) ggX7_hours_X7_ofDirection
theorem dX7_hours_0 : decode cX7_hours 0 = .ok (.iload_n 1, 1) := by decide +kernel
theorem dX7_hours_1 : decode cX7_hours 1 = .ok (.iload_n 2, 1) := by decide +kernel
theorem dX7_hours_2 : decode cX7_hours 2 = .ok (.invokestatic 85, 3) := by decide +kernel
theorem dX7_hours_5 : decode cX7_hours 5 = .ok (.istore 5, 2) := by decide +kernel
theorem dX7_hours_7 : decode cX7_hours 7 = .ok (.iload 5, 2) := by decide +kernel
theorem dX7_hours_9 : decode cX7_hours 9 = .ok (.ifCond .lt 20, 3) := by decide +kernel
theorem dX7_hours_12 : decode cX7_hours 12 = .ok (.iload_n 3, 1) := by decide +kernel
theorem dX7_hours_13 : decode cX7_hours 13 = .ok (.invokestatic 82, 3) := by decide +kernel
theorem dX7_hours_16 : decode cX7_hours 16 = .ok (.ifCond .eq 13, 3) := by decide +kernel
theorem dX7_hours_19 : decode cX7_hours 19 = .ok (.iload 4, 2) := by decide +kernel
theorem dX7_hours_21 : decode cX7_hours 21 = .ok (.iconst 0, 1) := by decide +kernel
theorem dX7_hours_22 : decode cX7_hours 22 = .ok (.iconst 3, 1) := by decide +kernel
theorem dX7_hours_23 : decode cX7_hours 23 = .ok (.invokestatic 41, 3) := by decide +kernel
theorem dX7_hours_26 : decode cX7_hours 26 = .ok (.ifCond .ne 5, 3) := by decide +kernel
theorem dX7_hours_29 : decode cX7_hours 29 = .ok (.iconst (-1), 1) := by decide +kernel
theorem dX7_hours_30 : decode cX7_hours 30 = .ok (.ireturn, 1) := by decide +kernel
theorem dX7_hours_31 : decode cX7_hours 31 = .ok (.aload_n 0, 1) := by decide +kernel
theorem dX7_hours_32 : decode cX7_hours 32 = .ok (.iload 5, 2) := by decide +kernel
theorem dX7_hours_34 : decode cX7_hours 34 = .ok (.invokevirtual 65, 3) := by decide +kernel
theorem dX7_hours_37 : decode cX7_hours 37 = .ok (.istore 6, 2) := by decide +kernel
theorem dX7_hours_39 : decode cX7_hours 39 = .ok (.iload 4, 2) := by decide +kernel
theorem dX7_hours_41 : decode cX7_hours 41 = .ok (.iconst 3, 1) := by decide +kernel
theorem dX7_hours_42 : decode cX7_hours 42 = .ok (.if_icmp .ne 11, 3) := by decide +kernel
theorem dX7_hours_45 : decode cX7_hours 45 = .ok (.aload_n 0, 1) := by decide +kernel
theorem dX7_hours_46 : decode cX7_hours 46 = .ok (.iload_n 3, 1) := by decide +kernel
theorem dX7_hours_47 : decode cX7_hours 47 = .ok (.invokevirtual 167, 3) := by decide +kernel
theorem dX7_hours_50 : decode cX7_hours 50 = .ok (.goto 14, 3) := by decide +kernel
theorem dX7_hours_53 : decode cX7_hours 53 = .ok (.aload_n 0, 1) := by decide +kernel
theorem dX7_hours_54 : decode cX7_hours 54 = .ok (.getfield 23, 3) := by decide +kernel
theorem dX7_hours_57 : decode cX7_hours 57 = .ok (.iconst 3, 1) := by decide +kernel
theorem dX7_hours_58 : decode cX7_hours 58 = .ok (.iload_n 3, 1) := by decide +kernel
theorem dX7_hours_59 : decode cX7_hours 59 = .ok (.imul, 1) := by decide +kernel
theorem dX7_hours_60 : decode cX7_hours 60 = .ok (.iload 4, 2) := by decide +kernel
theorem dX7_hours_62 : decode cX7_hours 62 = .ok (.iadd, 1) := by decide +kernel
theorem dX7_hours_63 : decode cX7_hours 63 = .ok (.iaload, 1) := by decide +kernel
theorem dX7_hours_64 : decode cX7_hours 64 = .ok (.ireturn, 1) := by decide +kernel
set_option maxRecDepth 20000 in
theorem ggX7_isPart_X7_isDirection : GoodIn wsX7_isPart wsX7_isDirection := goodIn_r _ [4, 5, 6, 3, 7] (by decide +kernel) (by decide +kernel)
set_option maxRecDepth 20000 in
theorem gX7_isPart_X7_isDirection : GoodIn wsX7_isPart (va_wsS RX7 82 yX7_isDirection wsX7_isDirection) := goodIn_app (goodIn_of _ (by decide +kernel)) ggX7_isPart_X7_isDirection
set_option maxRecDepth 20000 in
theorem ggX7_isPart_X7_in : GoodIn wsX7_isPart wsX7_in := goodIn_r _ [7] (by decide +kernel) (by decide +kernel)
set_option maxRecDepth 20000 in
theorem gX7_isPart_X7_in : GoodIn wsX7_isPart (va_wsS RX7 41 yX7_in wsX7_in) := goodIn_app (goodIn_of _ (by decide +kernel)) ggX7_isPart_X7_in
theorem dX7_isPart_0 : decode cX7_isPart 0 = .ok (.iload_n 0, 1) := by decide +kernel
theorem dX7_isPart_1 : decode cX7_isPart 1 = .ok (.invokestatic 82, 3) := by decide +kernel
theorem dX7_isPart_4 : decode cX7_isPart 4 = .ok (.ifCond .eq 16, 3) := by decide +kernel
theorem dX7_isPart_7 : decode cX7_isPart 7 = .ok (.iload_n 1, 1) := by decide +kernel
theorem dX7_isPart_8 : decode cX7_isPart 8 = .ok (.iconst 0, 1) := by decide +kernel
theorem dX7_isPart_9 : decode cX7_isPart 9 = .ok (.iconst 2, 1) := by decide +kernel
theorem dX7_isPart_10 : decode cX7_isPart 10 = .ok (.invokestatic 41, 3) := by decide +kernel
theorem dX7_isPart_13 : decode cX7_isPart 13 = .ok (.ifCond .eq 7, 3) := by decide +kernel
theorem dX7_isPart_16 : decode cX7_isPart 16 = .ok (.iconst 1, 1) := by decide +kernel
theorem dX7_isPart_17 : decode cX7_isPart 17 = .ok (.goto 4, 3) := by decide +kernel
theorem dX7_isPart_20 : decode cX7_isPart 20 = .ok (.iconst 0, 1) := by decide +kernel
theorem dX7_isPart_21 : decode cX7_isPart 21 = .ok (.ireturn, 1) := by decide +kernel
set_option maxRecDepth 20000 in
theorem ggX7_share_X7_roseOf : GoodIn wsX7_share wsX7_roseOf := goodIn_r _ [5, 6, 7, 4, 8, 9, 10, 11] (by decide +kernel) (by decide +kernel)
set_option maxRecDepth 20000 in
theorem gX7_share_X7_roseOf : GoodIn wsX7_share (va_wsS RX7 85 yX7_roseOf wsX7_roseOf) := goodIn_app (goodIn_of _ (by decide +kernel)) ggX7_share_X7_roseOf
set_option maxRecDepth 20000 in
theorem ggX7_share_X7_isPart : GoodIn wsX7_share wsX7_isPart := goodIn_r _ [14, 15, 16, 4, 17, 9, 10, 11] (by decide +kernel) (by decide +kernel)
set_option maxRecDepth 20000 in
theorem gX7_share_X7_isPart : GoodIn wsX7_share (va_wsS RX7 185 yX7_isPart wsX7_isPart) := goodIn_app (goodIn_of _ (by decide +kernel)) ggX7_share_X7_isPart
set_option maxRecDepth 20000 in
theorem ggX7_share_X7_finds : GoodIn wsX7_share wsX7_finds := goodIn_r _ [21, 1, 22, 23, 24, 25, 4, 26, 27, 28, 29, 30, 31, 32, 33, 34, 35, 36, 37, 38, 39, 40, 41, 42, 43, 44, 45, 46, 47, 48, 49, 50, 51, 52, 53, 54] (by decide +kernel) (by decide +kernel)
set_option maxRecDepth 20000 in
theorem gX7_share_X7_finds : GoodIn wsX7_share (wsV RX7 98 RX7 yX7_finds wsX7_finds) := goodIn_app (goodIn_of _ (by decide +kernel)) ggX7_share_X7_finds
theorem dX7_share_0 : decode cX7_share 0 = .ok (.iload_n 1, 1) := by decide +kernel
theorem dX7_share_1 : decode cX7_share 1 = .ok (.iload_n 2, 1) := by decide +kernel
theorem dX7_share_2 : decode cX7_share 2 = .ok (.invokestatic 85, 3) := by decide +kernel
theorem dX7_share_5 : decode cX7_share 5 = .ok (.istore 5, 2) := by decide +kernel
theorem dX7_share_7 : decode cX7_share 7 = .ok (.iload 5, 2) := by decide +kernel
theorem dX7_share_9 : decode cX7_share 9 = .ok (.ifCond .lt 12, 3) := by decide +kernel
theorem dX7_share_12 : decode cX7_share 12 = .ok (.iload_n 3, 1) := by decide +kernel
theorem dX7_share_13 : decode cX7_share 13 = .ok (.iload 4, 2) := by decide +kernel
theorem dX7_share_15 : decode cX7_share 15 = .ok (.invokestatic 185, 3) := by decide +kernel
theorem dX7_share_18 : decode cX7_share 18 = .ok (.ifCond .ne 5, 3) := by decide +kernel
theorem dX7_share_21 : decode cX7_share 21 = .ok (.iconst (-1), 1) := by decide +kernel
theorem dX7_share_22 : decode cX7_share 22 = .ok (.ireturn, 1) := by decide +kernel
theorem dX7_share_23 : decode cX7_share 23 = .ok (.aload_n 0, 1) := by decide +kernel
theorem dX7_share_24 : decode cX7_share 24 = .ok (.iload 5, 2) := by decide +kernel
theorem dX7_share_26 : decode cX7_share 26 = .ok (.invokevirtual 98, 3) := by decide +kernel
theorem dX7_share_29 : decode cX7_share 29 = .ok (.aload_n 0, 1) := by decide +kernel
theorem dX7_share_30 : decode cX7_share 30 = .ok (.getfield 26, 3) := by decide +kernel
theorem dX7_share_33 : decode cX7_share 33 = .ok (.iconst 3, 1) := by decide +kernel
theorem dX7_share_34 : decode cX7_share 34 = .ok (.iload_n 3, 1) := by decide +kernel
theorem dX7_share_35 : decode cX7_share 35 = .ok (.imul, 1) := by decide +kernel
theorem dX7_share_36 : decode cX7_share 36 = .ok (.iload 4, 2) := by decide +kernel
theorem dX7_share_38 : decode cX7_share 38 = .ok (.iadd, 1) := by decide +kernel
theorem dX7_share_39 : decode cX7_share 39 = .ok (.iaload, 1) := by decide +kernel
theorem dX7_share_40 : decode cX7_share 40 = .ok (.ireturn, 1) := by decide +kernel
set_option maxRecDepth 20000 in
theorem ggX7_dealt_X7_roseOf : GoodIn wsX7_dealt wsX7_roseOf := goodIn_r _ [5, 6, 7, 4, 8, 9, 10, 11] (by decide +kernel) (by decide +kernel)
set_option maxRecDepth 20000 in
theorem gX7_dealt_X7_roseOf : GoodIn wsX7_dealt (va_wsS RX7 85 yX7_roseOf wsX7_roseOf) := goodIn_app (goodIn_of _ (by decide +kernel)) ggX7_dealt_X7_roseOf
set_option maxRecDepth 20000 in
theorem ggX7_dealt_X7_isPart : GoodIn wsX7_dealt wsX7_isPart := goodIn_r _ [14, 15, 16, 4, 17, 9, 10, 11] (by decide +kernel) (by decide +kernel)
set_option maxRecDepth 20000 in
theorem gX7_dealt_X7_isPart : GoodIn wsX7_dealt (va_wsS RX7 185 yX7_isPart wsX7_isPart) := goodIn_app (goodIn_of _ (by decide +kernel)) ggX7_dealt_X7_isPart
set_option maxRecDepth 20000 in
theorem ggX7_dealt_X7_deals : GoodIn wsX7_dealt wsX7_deals := goodIn_r _ [21, 1, 22, 23, 24, 25, 26, 4, 27, 28, 29, 30, 31, 32, 33, 34, 35, 36, 37, 38, 39, 40, 41, 42, 43, 44, 45, 46, 47, 48, 49, 50, 51] (by decide +kernel) (by decide +kernel)
set_option maxRecDepth 20000 in
theorem gX7_dealt_X7_deals : GoodIn wsX7_dealt (wsV RX7 189 RX7 yX7_deals wsX7_deals) := goodIn_app (goodIn_of _ (by decide +kernel)) ggX7_dealt_X7_deals
theorem dX7_dealt_0 : decode cX7_dealt 0 = .ok (.iload_n 1, 1) := by decide +kernel
theorem dX7_dealt_1 : decode cX7_dealt 1 = .ok (.iload_n 2, 1) := by decide +kernel
theorem dX7_dealt_2 : decode cX7_dealt 2 = .ok (.invokestatic 85, 3) := by decide +kernel
theorem dX7_dealt_5 : decode cX7_dealt 5 = .ok (.istore 5, 2) := by decide +kernel
theorem dX7_dealt_7 : decode cX7_dealt 7 = .ok (.iload 5, 2) := by decide +kernel
theorem dX7_dealt_9 : decode cX7_dealt 9 = .ok (.ifCond .lt 12, 3) := by decide +kernel
theorem dX7_dealt_12 : decode cX7_dealt 12 = .ok (.iload_n 3, 1) := by decide +kernel
theorem dX7_dealt_13 : decode cX7_dealt 13 = .ok (.iload 4, 2) := by decide +kernel
theorem dX7_dealt_15 : decode cX7_dealt 15 = .ok (.invokestatic 185, 3) := by decide +kernel
theorem dX7_dealt_18 : decode cX7_dealt 18 = .ok (.ifCond .ne 5, 3) := by decide +kernel
theorem dX7_dealt_21 : decode cX7_dealt 21 = .ok (.iconst (-1), 1) := by decide +kernel
theorem dX7_dealt_22 : decode cX7_dealt 22 = .ok (.ireturn, 1) := by decide +kernel
theorem dX7_dealt_23 : decode cX7_dealt 23 = .ok (.aload_n 0, 1) := by decide +kernel
theorem dX7_dealt_24 : decode cX7_dealt 24 = .ok (.iload 5, 2) := by decide +kernel
theorem dX7_dealt_26 : decode cX7_dealt 26 = .ok (.invokevirtual 189, 3) := by decide +kernel
theorem dX7_dealt_29 : decode cX7_dealt 29 = .ok (.aload_n 0, 1) := by decide +kernel
theorem dX7_dealt_30 : decode cX7_dealt 30 = .ok (.getfield 26, 3) := by decide +kernel
theorem dX7_dealt_33 : decode cX7_dealt 33 = .ok (.iconst 3, 1) := by decide +kernel
theorem dX7_dealt_34 : decode cX7_dealt 34 = .ok (.iload_n 3, 1) := by decide +kernel
theorem dX7_dealt_35 : decode cX7_dealt 35 = .ok (.imul, 1) := by decide +kernel
theorem dX7_dealt_36 : decode cX7_dealt 36 = .ok (.iload 4, 2) := by decide +kernel
theorem dX7_dealt_38 : decode cX7_dealt 38 = .ok (.iadd, 1) := by decide +kernel
theorem dX7_dealt_39 : decode cX7_dealt 39 = .ok (.iaload, 1) := by decide +kernel
theorem dX7_dealt_40 : decode cX7_dealt 40 = .ok (.ireturn, 1) := by decide +kernel
set_option maxRecDepth 20000 in
theorem ggX7_quarter_X7_roseOf : GoodIn wsX7_quarter wsX7_roseOf := goodIn_r _ [4, 5, 6, 3, 7, 8, 9, 10] (by decide +kernel) (by decide +kernel)
set_option maxRecDepth 20000 in
theorem gX7_quarter_X7_roseOf : GoodIn wsX7_quarter (va_wsS RX7 85 yX7_roseOf wsX7_roseOf) := goodIn_app (goodIn_of _ (by decide +kernel)) ggX7_quarter_X7_roseOf
set_option maxRecDepth 20000 in
theorem ggX7_quarter_X7_isFour : GoodIn wsX7_quarter wsX7_isFour := goodIn_r _ [7, 8, 9, 3, 10] (by decide +kernel) (by decide +kernel)
set_option maxRecDepth 20000 in
theorem gX7_quarter_X7_isFour : GoodIn wsX7_quarter (va_wsS RX7 78 yX7_isFour wsX7_isFour) := goodIn_app (goodIn_of _ (by decide +kernel)) ggX7_quarter_X7_isFour
set_option maxRecDepth 20000 in
theorem ggX7_quarter_X7_looks : GoodIn wsX7_quarter wsX7_looks := goodIn_r _ [14, 15, 16, 17, 18, 3, 19, 20, 21, 22, 23, 24, 25, 26, 27, 28, 33, 34, 35, 36, 37, 38, 39, 40, 41, 42, 43] (by decide +kernel) (by decide +kernel)
set_option maxRecDepth 20000 in
theorem gX7_quarter_X7_looks : GoodIn wsX7_quarter (wsV RX7 65 RX7 yX7_looks wsX7_looks) := goodIn_app (goodIn_of _ (by decide +kernel)) ggX7_quarter_X7_looks
set_option maxRecDepth 20000 in
theorem ggX7_quarter_X7_ofDirection : GoodIn wsX7_quarter wsX7_ofDirection := goodIn_r _ [32, 15, 33, 34, 35, 36, 37, 38, 39, 40, 41, 42, 43] (by decide +kernel) (by decide +kernel)
set_option maxRecDepth 20000 in
theorem gX7_quarter_X7_ofDirection : GoodIn wsX7_quarter (wsV RX7 167 RX7 yX7_ofDirection wsX7_ofDirection) := goodIn_app (goodIn_of _ (by decide +kernel)) ggX7_quarter_X7_ofDirection
theorem dX7_quarter_0 : decode cX7_quarter 0 = .ok (.iload_n 1, 1) := by decide +kernel
theorem dX7_quarter_1 : decode cX7_quarter 1 = .ok (.iload_n 2, 1) := by decide +kernel
theorem dX7_quarter_2 : decode cX7_quarter 2 = .ok (.invokestatic 85, 3) := by decide +kernel
theorem dX7_quarter_5 : decode cX7_quarter 5 = .ok (.istore 4, 2) := by decide +kernel
theorem dX7_quarter_7 : decode cX7_quarter 7 = .ok (.iload 4, 2) := by decide +kernel
theorem dX7_quarter_9 : decode cX7_quarter 9 = .ok (.ifCond .lt 10, 3) := by decide +kernel
theorem dX7_quarter_12 : decode cX7_quarter 12 = .ok (.iload_n 3, 1) := by decide +kernel
theorem dX7_quarter_13 : decode cX7_quarter 13 = .ok (.invokestatic 78, 3) := by decide +kernel
theorem dX7_quarter_16 : decode cX7_quarter 16 = .ok (.ifCond .ne 5, 3) := by decide +kernel
theorem dX7_quarter_19 : decode cX7_quarter 19 = .ok (.iconst (-1), 1) := by decide +kernel
theorem dX7_quarter_20 : decode cX7_quarter 20 = .ok (.ireturn, 1) := by decide +kernel
theorem dX7_quarter_21 : decode cX7_quarter 21 = .ok (.aload_n 0, 1) := by decide +kernel
theorem dX7_quarter_22 : decode cX7_quarter 22 = .ok (.iload 4, 2) := by decide +kernel
theorem dX7_quarter_24 : decode cX7_quarter 24 = .ok (.invokevirtual 65, 3) := by decide +kernel
theorem dX7_quarter_27 : decode cX7_quarter 27 = .ok (.istore 5, 2) := by decide +kernel
theorem dX7_quarter_29 : decode cX7_quarter 29 = .ok (.iconst 4, 1) := by decide +kernel
theorem dX7_quarter_30 : decode cX7_quarter 30 = .ok (.iload_n 3, 1) := by decide +kernel
theorem dX7_quarter_31 : decode cX7_quarter 31 = .ok (.imul, 1) := by decide +kernel
theorem dX7_quarter_32 : decode cX7_quarter 32 = .ok (.istore 6, 2) := by decide +kernel
theorem dX7_quarter_34 : decode cX7_quarter 34 = .ok (.aload_n 0, 1) := by decide +kernel
theorem dX7_quarter_35 : decode cX7_quarter 35 = .ok (.iload 6, 2) := by decide +kernel
theorem dX7_quarter_37 : decode cX7_quarter 37 = .ok (.bipush 14, 2) := by decide +kernel
theorem dX7_quarter_39 : decode cX7_quarter 39 = .ok (.iadd, 1) := by decide +kernel
theorem dX7_quarter_40 : decode cX7_quarter 40 = .ok (.bipush 16, 2) := by decide +kernel
theorem dX7_quarter_42 : decode cX7_quarter 42 = .ok (.irem, 1) := by decide +kernel
theorem dX7_quarter_43 : decode cX7_quarter 43 = .ok (.invokevirtual 167, 3) := by decide +kernel
theorem dX7_quarter_46 : decode cX7_quarter 46 = .ok (.aload_n 0, 1) := by decide +kernel
theorem dX7_quarter_47 : decode cX7_quarter 47 = .ok (.iload 6, 2) := by decide +kernel
theorem dX7_quarter_49 : decode cX7_quarter 49 = .ok (.iconst 2, 1) := by decide +kernel
theorem dX7_quarter_50 : decode cX7_quarter 50 = .ok (.iadd, 1) := by decide +kernel
theorem dX7_quarter_51 : decode cX7_quarter 51 = .ok (.invokevirtual 167, 3) := by decide +kernel
theorem dX7_quarter_54 : decode cX7_quarter 54 = .ok (.iadd, 1) := by decide +kernel
theorem dX7_quarter_55 : decode cX7_quarter 55 = .ok (.istore 7, 2) := by decide +kernel
theorem dX7_quarter_57 : decode cX7_quarter 57 = .ok (.aload_n 0, 1) := by decide +kernel
theorem dX7_quarter_58 : decode cX7_quarter 58 = .ok (.iload 6, 2) := by decide +kernel
theorem dX7_quarter_60 : decode cX7_quarter 60 = .ok (.invokevirtual 167, 3) := by decide +kernel
theorem dX7_quarter_63 : decode cX7_quarter 63 = .ok (.aload_n 0, 1) := by decide +kernel
theorem dX7_quarter_64 : decode cX7_quarter 64 = .ok (.iload 6, 2) := by decide +kernel
theorem dX7_quarter_66 : decode cX7_quarter 66 = .ok (.bipush 15, 2) := by decide +kernel
theorem dX7_quarter_68 : decode cX7_quarter 68 = .ok (.iadd, 1) := by decide +kernel
theorem dX7_quarter_69 : decode cX7_quarter 69 = .ok (.bipush 16, 2) := by decide +kernel
theorem dX7_quarter_71 : decode cX7_quarter 71 = .ok (.irem, 1) := by decide +kernel
theorem dX7_quarter_72 : decode cX7_quarter 72 = .ok (.invokevirtual 167, 3) := by decide +kernel
theorem dX7_quarter_75 : decode cX7_quarter 75 = .ok (.iadd, 1) := by decide +kernel
theorem dX7_quarter_76 : decode cX7_quarter 76 = .ok (.aload_n 0, 1) := by decide +kernel
theorem dX7_quarter_77 : decode cX7_quarter 77 = .ok (.iload 6, 2) := by decide +kernel
theorem dX7_quarter_79 : decode cX7_quarter 79 = .ok (.iconst 1, 1) := by decide +kernel
theorem dX7_quarter_80 : decode cX7_quarter 80 = .ok (.iadd, 1) := by decide +kernel
theorem dX7_quarter_81 : decode cX7_quarter 81 = .ok (.invokevirtual 167, 3) := by decide +kernel
theorem dX7_quarter_84 : decode cX7_quarter 84 = .ok (.iadd, 1) := by decide +kernel
theorem dX7_quarter_85 : decode cX7_quarter 85 = .ok (.iload 7, 2) := by decide +kernel
theorem dX7_quarter_87 : decode cX7_quarter 87 = .ok (.iconst 2, 1) := by decide +kernel
theorem dX7_quarter_88 : decode cX7_quarter 88 = .ok (.idiv, 1) := by decide +kernel
theorem dX7_quarter_89 : decode cX7_quarter 89 = .ok (.iadd, 1) := by decide +kernel
theorem dX7_quarter_90 : decode cX7_quarter 90 = .ok (.ireturn, 1) := by decide +kernel
set_option maxRecDepth 20000 in
theorem ggX7_excess_X7_roseOf : GoodIn wsX7_excess wsX7_roseOf := goodIn_r _ [4, 5, 6, 3, 7, 8, 9, 10] (by decide +kernel) (by decide +kernel)
set_option maxRecDepth 20000 in
theorem gX7_excess_X7_roseOf : GoodIn wsX7_excess (va_wsS RX7 85 yX7_roseOf wsX7_roseOf) := goodIn_app (goodIn_of _ (by decide +kernel)) ggX7_excess_X7_roseOf
set_option maxRecDepth 20000 in
theorem ggX7_excess_X7_isDirection : GoodIn wsX7_excess wsX7_isDirection := goodIn_r _ [13, 8, 9, 3, 10] (by decide +kernel) (by decide +kernel)
set_option maxRecDepth 20000 in
theorem gX7_excess_X7_isDirection : GoodIn wsX7_excess (va_wsS RX7 82 yX7_isDirection wsX7_isDirection) := goodIn_app (goodIn_of _ (by decide +kernel)) ggX7_excess_X7_isDirection
set_option maxRecDepth 20000 in
theorem ggX7_excess_X7_looks : GoodIn wsX7_excess wsX7_looks := goodIn_r _ [17, 18, 19, 20, 21, 3, 22, 23, 24, 25, 26, 27, 28, 29, 30, 31, 36, 37, 38, 39, 40, 41, 42, 43, 44, 45, 46] (by decide +kernel) (by decide +kernel)
set_option maxRecDepth 20000 in
theorem gX7_excess_X7_looks : GoodIn wsX7_excess (wsV RX7 65 RX7 yX7_looks wsX7_looks) := goodIn_app (goodIn_of _ (by decide +kernel)) ggX7_excess_X7_looks
set_option maxRecDepth 20000 in
theorem ggX7_excess_X7_ofDirection : GoodIn wsX7_excess wsX7_ofDirection := goodIn_r _ [35, 18, 36, 37, 38, 39, 40, 41, 42, 43, 44, 45, 46] (by decide +kernel) (by decide +kernel)
set_option maxRecDepth 20000 in
theorem gX7_excess_X7_ofDirection : GoodIn wsX7_excess (wsV RX7 167 RX7 yX7_ofDirection wsX7_ofDirection) := goodIn_app (goodIn_of _ (by decide +kernel)) ggX7_excess_X7_ofDirection
theorem dX7_excess_0 : decode cX7_excess 0 = .ok (.iload_n 1, 1) := by decide +kernel
theorem dX7_excess_1 : decode cX7_excess 1 = .ok (.iload_n 2, 1) := by decide +kernel
theorem dX7_excess_2 : decode cX7_excess 2 = .ok (.invokestatic 85, 3) := by decide +kernel
theorem dX7_excess_5 : decode cX7_excess 5 = .ok (.istore 4, 2) := by decide +kernel
theorem dX7_excess_7 : decode cX7_excess 7 = .ok (.iload 4, 2) := by decide +kernel
theorem dX7_excess_9 : decode cX7_excess 9 = .ok (.ifCond .lt 10, 3) := by decide +kernel
theorem dX7_excess_12 : decode cX7_excess 12 = .ok (.iload_n 3, 1) := by decide +kernel
theorem dX7_excess_13 : decode cX7_excess 13 = .ok (.invokestatic 82, 3) := by decide +kernel
theorem dX7_excess_16 : decode cX7_excess 16 = .ok (.ifCond .ne 5, 3) := by decide +kernel
theorem dX7_excess_19 : decode cX7_excess 19 = .ok (.iconst (-1), 1) := by decide +kernel
theorem dX7_excess_20 : decode cX7_excess 20 = .ok (.ireturn, 1) := by decide +kernel
theorem dX7_excess_21 : decode cX7_excess 21 = .ok (.aload_n 0, 1) := by decide +kernel
theorem dX7_excess_22 : decode cX7_excess 22 = .ok (.iload 4, 2) := by decide +kernel
theorem dX7_excess_24 : decode cX7_excess 24 = .ok (.invokevirtual 65, 3) := by decide +kernel
theorem dX7_excess_27 : decode cX7_excess 27 = .ok (.istore 5, 2) := by decide +kernel
theorem dX7_excess_29 : decode cX7_excess 29 = .ok (.aload_n 0, 1) := by decide +kernel
theorem dX7_excess_30 : decode cX7_excess 30 = .ok (.iload_n 3, 1) := by decide +kernel
theorem dX7_excess_31 : decode cX7_excess 31 = .ok (.invokevirtual 167, 3) := by decide +kernel
theorem dX7_excess_34 : decode cX7_excess 34 = .ok (.aload_n 0, 1) := by decide +kernel
theorem dX7_excess_35 : decode cX7_excess 35 = .ok (.iload_n 3, 1) := by decide +kernel
theorem dX7_excess_36 : decode cX7_excess 36 = .ok (.bipush 8, 2) := by decide +kernel
theorem dX7_excess_38 : decode cX7_excess 38 = .ok (.iadd, 1) := by decide +kernel
theorem dX7_excess_39 : decode cX7_excess 39 = .ok (.bipush 16, 2) := by decide +kernel
theorem dX7_excess_41 : decode cX7_excess 41 = .ok (.irem, 1) := by decide +kernel
theorem dX7_excess_42 : decode cX7_excess 42 = .ok (.invokevirtual 167, 3) := by decide +kernel
theorem dX7_excess_45 : decode cX7_excess 45 = .ok (.isub, 1) := by decide +kernel
theorem dX7_excess_46 : decode cX7_excess 46 = .ok (.istore 6, 2) := by decide +kernel
theorem dX7_excess_48 : decode cX7_excess 48 = .ok (.iload 6, 2) := by decide +kernel
theorem dX7_excess_50 : decode cX7_excess 50 = .ok (.ifCond .ge 7, 3) := by decide +kernel
theorem dX7_excess_53 : decode cX7_excess 53 = .ok (.iconst 0, 1) := by decide +kernel
theorem dX7_excess_54 : decode cX7_excess 54 = .ok (.goto 5, 3) := by decide +kernel
theorem dX7_excess_57 : decode cX7_excess 57 = .ok (.iload 6, 2) := by decide +kernel
theorem dX7_excess_59 : decode cX7_excess 59 = .ok (.ireturn, 1) := by decide +kernel
set_option maxRecDepth 20000 in
theorem ggX7_unlike_X7_isFour : GoodIn wsX7_unlike wsX7_isFour := goodIn_r _ [6, 7, 8, 5, 9] (by decide +kernel) (by decide +kernel)
set_option maxRecDepth 20000 in
theorem gX7_unlike_X7_isFour : GoodIn wsX7_unlike (va_wsS RX7 78 yX7_isFour wsX7_isFour) := goodIn_app (goodIn_of _ (by decide +kernel)) ggX7_unlike_X7_isFour
set_option maxRecDepth 20000 in
theorem ggX7_unlike_X7_finds : GoodIn wsX7_unlike wsX7_finds := goodIn_r _ [13, 2, 14, 15, 16, 17, 5, 18, 19, 20, 21, 22, 23, 24, 25, 26, 27, 28, 29, 30, 31, 32, 33, 34, 35, 36, 37, 38, 39, 40, 41, 42, 43, 44, 45, 46] (by decide +kernel) (by decide +kernel)
set_option maxRecDepth 20000 in
theorem gX7_unlike_X7_finds : GoodIn wsX7_unlike (wsV RX7 98 RX7 yX7_finds wsX7_finds) := goodIn_app (goodIn_of _ (by decide +kernel)) ggX7_unlike_X7_finds
theorem dX7_unlike_0 : decode cX7_unlike 0 = .ok (.iload_n 1, 1) := by decide +kernel
theorem dX7_unlike_1 : decode cX7_unlike 1 = .ok (.invokestatic 78, 3) := by decide +kernel
theorem dX7_unlike_4 : decode cX7_unlike 4 = .ok (.ifCond .eq 17, 3) := by decide +kernel
theorem dX7_unlike_7 : decode cX7_unlike 7 = .ok (.iload_n 2, 1) := by decide +kernel
theorem dX7_unlike_8 : decode cX7_unlike 8 = .ok (.invokestatic 78, 3) := by decide +kernel
theorem dX7_unlike_11 : decode cX7_unlike 11 = .ok (.ifCond .eq 10, 3) := by decide +kernel
theorem dX7_unlike_14 : decode cX7_unlike 14 = .ok (.iload_n 3, 1) := by decide +kernel
theorem dX7_unlike_15 : decode cX7_unlike 15 = .ok (.invokestatic 78, 3) := by decide +kernel
theorem dX7_unlike_18 : decode cX7_unlike 18 = .ok (.ifCond .ne 5, 3) := by decide +kernel
theorem dX7_unlike_21 : decode cX7_unlike 21 = .ok (.iconst (-1), 1) := by decide +kernel
theorem dX7_unlike_22 : decode cX7_unlike 22 = .ok (.ireturn, 1) := by decide +kernel
theorem dX7_unlike_23 : decode cX7_unlike 23 = .ok (.iload_n 1, 1) := by decide +kernel
theorem dX7_unlike_24 : decode cX7_unlike 24 = .ok (.iload_n 2, 1) := by decide +kernel
theorem dX7_unlike_25 : decode cX7_unlike 25 = .ok (.if_icmp .ne 6, 3) := by decide +kernel
theorem dX7_unlike_28 : decode cX7_unlike 28 = .ok (.bipush (-2), 2) := by decide +kernel
theorem dX7_unlike_30 : decode cX7_unlike 30 = .ok (.ireturn, 1) := by decide +kernel
theorem dX7_unlike_31 : decode cX7_unlike 31 = .ok (.aload_n 0, 1) := by decide +kernel
theorem dX7_unlike_32 : decode cX7_unlike 32 = .ok (.iconst 4, 1) := by decide +kernel
theorem dX7_unlike_33 : decode cX7_unlike 33 = .ok (.iload_n 1, 1) := by decide +kernel
theorem dX7_unlike_34 : decode cX7_unlike 34 = .ok (.imul, 1) := by decide +kernel
theorem dX7_unlike_35 : decode cX7_unlike 35 = .ok (.iload_n 3, 1) := by decide +kernel
theorem dX7_unlike_36 : decode cX7_unlike 36 = .ok (.iadd, 1) := by decide +kernel
theorem dX7_unlike_37 : decode cX7_unlike 37 = .ok (.invokevirtual 98, 3) := by decide +kernel
theorem dX7_unlike_40 : decode cX7_unlike 40 = .ok (.iconst 0, 1) := by decide +kernel
theorem dX7_unlike_41 : decode cX7_unlike 41 = .ok (.istore 4, 2) := by decide +kernel
theorem dX7_unlike_43 : decode cX7_unlike 43 = .ok (.iload 4, 2) := by decide +kernel
theorem dX7_unlike_45 : decode cX7_unlike 45 = .ok (.bipush 48, 2) := by decide +kernel
theorem dX7_unlike_47 : decode cX7_unlike 47 = .ok (.if_icmp .ge 23, 3) := by decide +kernel
theorem dX7_unlike_50 : decode cX7_unlike 50 = .ok (.aload_n 0, 1) := by decide +kernel
theorem dX7_unlike_51 : decode cX7_unlike 51 = .ok (.getfield 29, 3) := by decide +kernel
theorem dX7_unlike_54 : decode cX7_unlike 54 = .ok (.iload 4, 2) := by decide +kernel
theorem dX7_unlike_56 : decode cX7_unlike 56 = .ok (.aload_n 0, 1) := by decide +kernel
theorem dX7_unlike_57 : decode cX7_unlike 57 = .ok (.getfield 26, 3) := by decide +kernel
theorem dX7_unlike_60 : decode cX7_unlike 60 = .ok (.iload 4, 2) := by decide +kernel
theorem dX7_unlike_62 : decode cX7_unlike 62 = .ok (.iaload, 1) := by decide +kernel
theorem dX7_unlike_63 : decode cX7_unlike 63 = .ok (.iastore, 1) := by decide +kernel
theorem dX7_unlike_64 : decode cX7_unlike 64 = .ok (.iinc 4 1, 3) := by decide +kernel
theorem dX7_unlike_67 : decode cX7_unlike 67 = .ok (.goto (-24), 3) := by decide +kernel
theorem dX7_unlike_70 : decode cX7_unlike 70 = .ok (.aload_n 0, 1) := by decide +kernel
theorem dX7_unlike_71 : decode cX7_unlike 71 = .ok (.iconst 4, 1) := by decide +kernel
theorem dX7_unlike_72 : decode cX7_unlike 72 = .ok (.iload_n 2, 1) := by decide +kernel
theorem dX7_unlike_73 : decode cX7_unlike 73 = .ok (.imul, 1) := by decide +kernel
theorem dX7_unlike_74 : decode cX7_unlike 74 = .ok (.iload_n 3, 1) := by decide +kernel
theorem dX7_unlike_75 : decode cX7_unlike 75 = .ok (.iadd, 1) := by decide +kernel
theorem dX7_unlike_76 : decode cX7_unlike 76 = .ok (.invokevirtual 98, 3) := by decide +kernel
theorem dX7_unlike_79 : decode cX7_unlike 79 = .ok (.iconst 0, 1) := by decide +kernel
theorem dX7_unlike_80 : decode cX7_unlike 80 = .ok (.istore 4, 2) := by decide +kernel
theorem dX7_unlike_82 : decode cX7_unlike 82 = .ok (.iconst 0, 1) := by decide +kernel
theorem dX7_unlike_83 : decode cX7_unlike 83 = .ok (.istore 5, 2) := by decide +kernel
theorem dX7_unlike_85 : decode cX7_unlike 85 = .ok (.iload 5, 2) := by decide +kernel
theorem dX7_unlike_87 : decode cX7_unlike 87 = .ok (.bipush 48, 2) := by decide +kernel
theorem dX7_unlike_89 : decode cX7_unlike 89 = .ok (.if_icmp .ge 64, 3) := by decide +kernel
theorem dX7_unlike_92 : decode cX7_unlike 92 = .ok (.iload 4, 2) := by decide +kernel
theorem dX7_unlike_94 : decode cX7_unlike 94 = .ok (.aload_n 0, 1) := by decide +kernel
theorem dX7_unlike_95 : decode cX7_unlike 95 = .ok (.getfield 26, 3) := by decide +kernel
theorem dX7_unlike_98 : decode cX7_unlike 98 = .ok (.iload 5, 2) := by decide +kernel
theorem dX7_unlike_100 : decode cX7_unlike 100 = .ok (.iaload, 1) := by decide +kernel
theorem dX7_unlike_101 : decode cX7_unlike 101 = .ok (.aload_n 0, 1) := by decide +kernel
theorem dX7_unlike_102 : decode cX7_unlike 102 = .ok (.getfield 29, 3) := by decide +kernel
theorem dX7_unlike_105 : decode cX7_unlike 105 = .ok (.iload 5, 2) := by decide +kernel
theorem dX7_unlike_107 : decode cX7_unlike 107 = .ok (.iaload, 1) := by decide +kernel
theorem dX7_unlike_108 : decode cX7_unlike 108 = .ok (.if_icmp .ge 21, 3) := by decide +kernel
theorem dX7_unlike_111 : decode cX7_unlike 111 = .ok (.aload_n 0, 1) := by decide +kernel
theorem dX7_unlike_112 : decode cX7_unlike 112 = .ok (.getfield 29, 3) := by decide +kernel
theorem dX7_unlike_115 : decode cX7_unlike 115 = .ok (.iload 5, 2) := by decide +kernel
theorem dX7_unlike_117 : decode cX7_unlike 117 = .ok (.iaload, 1) := by decide +kernel
theorem dX7_unlike_118 : decode cX7_unlike 118 = .ok (.aload_n 0, 1) := by decide +kernel
theorem dX7_unlike_119 : decode cX7_unlike 119 = .ok (.getfield 26, 3) := by decide +kernel
theorem dX7_unlike_122 : decode cX7_unlike 122 = .ok (.iload 5, 2) := by decide +kernel
theorem dX7_unlike_124 : decode cX7_unlike 124 = .ok (.iaload, 1) := by decide +kernel
theorem dX7_unlike_125 : decode cX7_unlike 125 = .ok (.isub, 1) := by decide +kernel
theorem dX7_unlike_126 : decode cX7_unlike 126 = .ok (.goto 18, 3) := by decide +kernel
theorem dX7_unlike_129 : decode cX7_unlike 129 = .ok (.aload_n 0, 1) := by decide +kernel
theorem dX7_unlike_130 : decode cX7_unlike 130 = .ok (.getfield 26, 3) := by decide +kernel
theorem dX7_unlike_133 : decode cX7_unlike 133 = .ok (.iload 5, 2) := by decide +kernel
theorem dX7_unlike_135 : decode cX7_unlike 135 = .ok (.iaload, 1) := by decide +kernel
theorem dX7_unlike_136 : decode cX7_unlike 136 = .ok (.aload_n 0, 1) := by decide +kernel
theorem dX7_unlike_137 : decode cX7_unlike 137 = .ok (.getfield 29, 3) := by decide +kernel
theorem dX7_unlike_140 : decode cX7_unlike 140 = .ok (.iload 5, 2) := by decide +kernel
theorem dX7_unlike_142 : decode cX7_unlike 142 = .ok (.iaload, 1) := by decide +kernel
theorem dX7_unlike_143 : decode cX7_unlike 143 = .ok (.isub, 1) := by decide +kernel
theorem dX7_unlike_144 : decode cX7_unlike 144 = .ok (.iadd, 1) := by decide +kernel
theorem dX7_unlike_145 : decode cX7_unlike 145 = .ok (.istore 4, 2) := by decide +kernel
theorem dX7_unlike_147 : decode cX7_unlike 147 = .ok (.iinc 5 1, 3) := by decide +kernel
theorem dX7_unlike_150 : decode cX7_unlike 150 = .ok (.goto (-65), 3) := by decide +kernel
theorem dX7_unlike_153 : decode cX7_unlike 153 = .ok (.iload 4, 2) := by decide +kernel
theorem dX7_unlike_155 : decode cX7_unlike 155 = .ok (.ireturn, 1) := by decide +kernel
set_option maxRecDepth 20000 in
theorem ggX7_seasonOf_X7_isFour : GoodIn wsX7_seasonOf wsX7_isFour := goodIn_r _ [4, 5, 6, 3, 7] (by decide +kernel) (by decide +kernel)
set_option maxRecDepth 20000 in
theorem gX7_seasonOf_X7_isFour : GoodIn wsX7_seasonOf (va_wsS RX7 78 yX7_isFour wsX7_isFour) := goodIn_app (goodIn_of _ (by decide +kernel)) ggX7_seasonOf_X7_isFour
set_option maxRecDepth 20000 in
theorem ggX7_seasonOf_X7_in : GoodIn wsX7_seasonOf wsX7_in := goodIn_r _ [7] (by decide +kernel) (by decide +kernel)
set_option maxRecDepth 20000 in
theorem gX7_seasonOf_X7_in : GoodIn wsX7_seasonOf (va_wsS RX7 41 yX7_in wsX7_in) := goodIn_app (goodIn_of _ (by decide +kernel)) ggX7_seasonOf_X7_in
set_option maxRecDepth 20000 in
theorem ggX7_seasonOf_X7_looks : GoodIn wsX7_seasonOf wsX7_looks := goodIn_r _ [11, 12, 13, 14, 15, 3, 16, 17, 18, 19, 20, 21, 22, 23, 24, 25, 30, 31, 32, 33, 34, 35, 36, 37, 38, 39, 40] (by decide +kernel) (by decide +kernel)
set_option maxRecDepth 20000 in
theorem gX7_seasonOf_X7_looks : GoodIn wsX7_seasonOf (wsV RX7 65 RX7 yX7_looks wsX7_looks) := goodIn_app (goodIn_of _ (by decide +kernel)) ggX7_seasonOf_X7_looks
set_option maxRecDepth 20000 in
theorem ggX7_seasonOf_X7_ofKind : GoodIn wsX7_seasonOf wsX7_ofKind := goodIn_r _ [29, 12, 30, 31, 32, 33, 34, 35, 36, 37, 38, 39, 40] (by decide +kernel) (by decide +kernel)
set_option maxRecDepth 20000 in
theorem gX7_seasonOf_X7_ofKind : GoodIn wsX7_seasonOf (wsV RX7 176 RX7 yX7_ofKind wsX7_ofKind) := goodIn_app (goodIn_of _ (by decide +kernel)) ggX7_seasonOf_X7_ofKind
theorem dX7_seasonOf_0 : decode cX7_seasonOf 0 = .ok (.iload_n 1, 1) := by decide +kernel
theorem dX7_seasonOf_1 : decode cX7_seasonOf 1 = .ok (.invokestatic 78, 3) := by decide +kernel
theorem dX7_seasonOf_4 : decode cX7_seasonOf 4 = .ok (.ifCond .eq 12, 3) := by decide +kernel
theorem dX7_seasonOf_7 : decode cX7_seasonOf 7 = .ok (.iload_n 2, 1) := by decide +kernel
theorem dX7_seasonOf_8 : decode cX7_seasonOf 8 = .ok (.iconst 0, 1) := by decide +kernel
theorem dX7_seasonOf_9 : decode cX7_seasonOf 9 = .ok (.iconst 2, 1) := by decide +kernel
theorem dX7_seasonOf_10 : decode cX7_seasonOf 10 = .ok (.invokestatic 41, 3) := by decide +kernel
theorem dX7_seasonOf_13 : decode cX7_seasonOf 13 = .ok (.ifCond .ne 5, 3) := by decide +kernel
theorem dX7_seasonOf_16 : decode cX7_seasonOf 16 = .ok (.iconst (-1), 1) := by decide +kernel
theorem dX7_seasonOf_17 : decode cX7_seasonOf 17 = .ok (.ireturn, 1) := by decide +kernel
theorem dX7_seasonOf_18 : decode cX7_seasonOf 18 = .ok (.bipush (-5), 2) := by decide +kernel
theorem dX7_seasonOf_20 : decode cX7_seasonOf 20 = .ok (.istore_n 3, 1) := by decide +kernel
theorem dX7_seasonOf_21 : decode cX7_seasonOf 21 = .ok (.iconst 0, 1) := by decide +kernel
theorem dX7_seasonOf_22 : decode cX7_seasonOf 22 = .ok (.istore 4, 2) := by decide +kernel
theorem dX7_seasonOf_24 : decode cX7_seasonOf 24 = .ok (.iconst 0, 1) := by decide +kernel
theorem dX7_seasonOf_25 : decode cX7_seasonOf 25 = .ok (.istore 5, 2) := by decide +kernel
theorem dX7_seasonOf_27 : decode cX7_seasonOf 27 = .ok (.iload 5, 2) := by decide +kernel
theorem dX7_seasonOf_29 : decode cX7_seasonOf 29 = .ok (.iconst 4, 1) := by decide +kernel
theorem dX7_seasonOf_30 : decode cX7_seasonOf 30 = .ok (.if_icmp .ge 58, 3) := by decide +kernel
theorem dX7_seasonOf_33 : decode cX7_seasonOf 33 = .ok (.aload_n 0, 1) := by decide +kernel
theorem dX7_seasonOf_34 : decode cX7_seasonOf 34 = .ok (.iconst 4, 1) := by decide +kernel
theorem dX7_seasonOf_35 : decode cX7_seasonOf 35 = .ok (.iload_n 1, 1) := by decide +kernel
theorem dX7_seasonOf_36 : decode cX7_seasonOf 36 = .ok (.imul, 1) := by decide +kernel
theorem dX7_seasonOf_37 : decode cX7_seasonOf 37 = .ok (.iload 5, 2) := by decide +kernel
theorem dX7_seasonOf_39 : decode cX7_seasonOf 39 = .ok (.iadd, 1) := by decide +kernel
theorem dX7_seasonOf_40 : decode cX7_seasonOf 40 = .ok (.invokevirtual 65, 3) := by decide +kernel
theorem dX7_seasonOf_43 : decode cX7_seasonOf 43 = .ok (.istore 6, 2) := by decide +kernel
theorem dX7_seasonOf_45 : decode cX7_seasonOf 45 = .ok (.aload_n 0, 1) := by decide +kernel
theorem dX7_seasonOf_46 : decode cX7_seasonOf 46 = .ok (.iload_n 2, 1) := by decide +kernel
theorem dX7_seasonOf_47 : decode cX7_seasonOf 47 = .ok (.invokevirtual 176, 3) := by decide +kernel
theorem dX7_seasonOf_50 : decode cX7_seasonOf 50 = .ok (.istore 7, 2) := by decide +kernel
theorem dX7_seasonOf_52 : decode cX7_seasonOf 52 = .ok (.iload 7, 2) := by decide +kernel
theorem dX7_seasonOf_54 : decode cX7_seasonOf 54 = .ok (.iload 4, 2) := by decide +kernel
theorem dX7_seasonOf_56 : decode cX7_seasonOf 56 = .ok (.if_icmp .le 8, 3) := by decide +kernel
theorem dX7_seasonOf_59 : decode cX7_seasonOf 59 = .ok (.iload 5, 2) := by decide +kernel
theorem dX7_seasonOf_61 : decode cX7_seasonOf 61 = .ok (.goto 4, 3) := by decide +kernel
theorem dX7_seasonOf_64 : decode cX7_seasonOf 64 = .ok (.iload_n 3, 1) := by decide +kernel
theorem dX7_seasonOf_65 : decode cX7_seasonOf 65 = .ok (.istore_n 3, 1) := by decide +kernel
theorem dX7_seasonOf_66 : decode cX7_seasonOf 66 = .ok (.iload 7, 2) := by decide +kernel
theorem dX7_seasonOf_68 : decode cX7_seasonOf 68 = .ok (.iload 4, 2) := by decide +kernel
theorem dX7_seasonOf_70 : decode cX7_seasonOf 70 = .ok (.if_icmp .le 8, 3) := by decide +kernel
theorem dX7_seasonOf_73 : decode cX7_seasonOf 73 = .ok (.iload 7, 2) := by decide +kernel
theorem dX7_seasonOf_75 : decode cX7_seasonOf 75 = .ok (.goto 5, 3) := by decide +kernel
theorem dX7_seasonOf_78 : decode cX7_seasonOf 78 = .ok (.iload 4, 2) := by decide +kernel
theorem dX7_seasonOf_80 : decode cX7_seasonOf 80 = .ok (.istore 4, 2) := by decide +kernel
theorem dX7_seasonOf_82 : decode cX7_seasonOf 82 = .ok (.iinc 5 1, 3) := by decide +kernel
theorem dX7_seasonOf_85 : decode cX7_seasonOf 85 = .ok (.goto (-58), 3) := by decide +kernel
theorem dX7_seasonOf_88 : decode cX7_seasonOf 88 = .ok (.iload_n 3, 1) := by decide +kernel
theorem dX7_seasonOf_89 : decode cX7_seasonOf 89 = .ok (.ireturn, 1) := by decide +kernel
set_option maxRecDepth 20000 in
theorem ggX7_longest_X7_petalOf : GoodIn wsX7_longest wsX7_petalOf := goodIn_r _ [5, 6, 7, 8, 4, 9, 10, 11, 12, 13, 14, 15, 16, 17, 18, 19, 20, 21] (by decide +kernel) (by decide +kernel)
set_option maxRecDepth 20000 in
theorem gX7_longest_X7_petalOf : GoodIn wsX7_longest (wsV RX7 102 RX7 yX7_petalOf wsX7_petalOf) := goodIn_app (goodIn_of _ (by decide +kernel)) ggX7_longest_X7_petalOf
theorem dX7_longest_0 : decode cX7_longest 0 = .ok (.iconst 0, 1) := by decide +kernel
theorem dX7_longest_1 : decode cX7_longest 1 = .ok (.istore_n 2, 1) := by decide +kernel
theorem dX7_longest_2 : decode cX7_longest 2 = .ok (.iconst 0, 1) := by decide +kernel
theorem dX7_longest_3 : decode cX7_longest 3 = .ok (.istore_n 3, 1) := by decide +kernel
theorem dX7_longest_4 : decode cX7_longest 4 = .ok (.iload_n 3, 1) := by decide +kernel
theorem dX7_longest_5 : decode cX7_longest 5 = .ok (.bipush 48, 2) := by decide +kernel
theorem dX7_longest_7 : decode cX7_longest 7 = .ok (.if_icmp .ge 30, 3) := by decide +kernel
theorem dX7_longest_10 : decode cX7_longest 10 = .ok (.aload_n 0, 1) := by decide +kernel
theorem dX7_longest_11 : decode cX7_longest 11 = .ok (.iload_n 1, 1) := by decide +kernel
theorem dX7_longest_12 : decode cX7_longest 12 = .ok (.iload_n 3, 1) := by decide +kernel
theorem dX7_longest_13 : decode cX7_longest 13 = .ok (.invokevirtual 102, 3) := by decide +kernel
theorem dX7_longest_16 : decode cX7_longest 16 = .ok (.iload_n 2, 1) := by decide +kernel
theorem dX7_longest_17 : decode cX7_longest 17 = .ok (.if_icmp .le 12, 3) := by decide +kernel
theorem dX7_longest_20 : decode cX7_longest 20 = .ok (.aload_n 0, 1) := by decide +kernel
theorem dX7_longest_21 : decode cX7_longest 21 = .ok (.iload_n 1, 1) := by decide +kernel
theorem dX7_longest_22 : decode cX7_longest 22 = .ok (.iload_n 3, 1) := by decide +kernel
theorem dX7_longest_23 : decode cX7_longest 23 = .ok (.invokevirtual 102, 3) := by decide +kernel
theorem dX7_longest_26 : decode cX7_longest 26 = .ok (.goto 4, 3) := by decide +kernel
theorem dX7_longest_29 : decode cX7_longest 29 = .ok (.iload_n 2, 1) := by decide +kernel
theorem dX7_longest_30 : decode cX7_longest 30 = .ok (.istore_n 2, 1) := by decide +kernel
theorem dX7_longest_31 : decode cX7_longest 31 = .ok (.iinc 3 1, 3) := by decide +kernel
theorem dX7_longest_34 : decode cX7_longest 34 = .ok (.goto (-30), 3) := by decide +kernel
theorem dX7_longest_37 : decode cX7_longest 37 = .ok (.iload_n 2, 1) := by decide +kernel
theorem dX7_longest_38 : decode cX7_longest 38 = .ok (.ireturn, 1) := by decide +kernel
set_option maxRecDepth 20000 in
theorem ggX7_plate_X7_roseOf : GoodIn wsX7_plate wsX7_roseOf := goodIn_r _ [4, 5, 6, 3, 7, 8, 9, 10] (by decide +kernel) (by decide +kernel)
set_option maxRecDepth 20000 in
theorem gX7_plate_X7_roseOf : GoodIn wsX7_plate (va_wsS RX7 85 yX7_roseOf wsX7_roseOf) := goodIn_app (goodIn_of _ (by decide +kernel)) ggX7_plate_X7_roseOf
set_option maxRecDepth 20000 in
theorem ggX7_plate_X7_num : GoodIn wsX7_plate wsX7_num := goodIn_r _ [14, 15, 74, 75, 76, 77, 78, 79, 80, 81, 82, 83, 84] (by decide +kernel) (by decide +kernel)
set_option maxRecDepth 20000 in
theorem gX7_plate_X7_num : GoodIn wsX7_plate (wsV RX7 62 RX7 yX7_num wsX7_num) := goodIn_app (goodIn_of _ (by decide +kernel)) ggX7_plate_X7_num
set_option maxRecDepth 20000 in
theorem ggX7_plate_X7_petals : GoodIn wsX7_plate wsX7_petals := goodIn_r _ [19, 20, 21, 22, 3, 23, 11, 12, 13, 14, 15, 74, 75, 76, 77, 78, 79, 80, 81, 82, 83, 84] (by decide +kernel) (by decide +kernel)
set_option maxRecDepth 20000 in
theorem gX7_plate_X7_petals : GoodIn wsX7_plate (wsV RX7 114 RX7 yX7_petals wsX7_petals) := goodIn_app (goodIn_of _ (by decide +kernel)) ggX7_plate_X7_petals
set_option maxRecDepth 20000 in
theorem ggX7_plate_X7_longest : GoodIn wsX7_plate wsX7_longest := goodIn_r _ [27, 20, 21, 22, 3, 23, 11, 12, 13, 14, 15, 74, 75, 76, 77, 78, 79, 80, 81, 82, 83, 84] (by decide +kernel) (by decide +kernel)
set_option maxRecDepth 20000 in
theorem gX7_plate_X7_longest : GoodIn wsX7_plate (wsV RX7 192 RX7 yX7_longest wsX7_longest) := goodIn_app (goodIn_of _ (by decide +kernel)) ggX7_plate_X7_longest
set_option maxRecDepth 20000 in
theorem ggX7_plate_X7_farOff : GoodIn wsX7_plate wsX7_farOff := goodIn_r _ [31, 32, 11, 12, 13, 3, 14, 15, 33, 34, 35, 36, 37, 38, 39, 40, 41, 42, 43, 44, 45, 46, 47, 48, 49, 50, 51, 52, 53, 54, 55, 56, 57, 58, 59, 60, 61, 62, 63, 64, 65, 66, 67, 68, 69, 20, 21, 22, 23, 74, 75, 76, 77, 78, 79, 80, 81, 82, 83, 84] (by decide +kernel) (by decide +kernel)
set_option maxRecDepth 20000 in
theorem gX7_plate_X7_farOff : GoodIn wsX7_plate (wsV RX7 195 RX7 yX7_farOff wsX7_farOff) := goodIn_app (goodIn_of _ (by decide +kernel)) ggX7_plate_X7_farOff
set_option maxRecDepth 20000 in
theorem ggX7_plate_X7_needs : GoodIn wsX7_plate wsX7_needs := goodIn_r _ [73, 32, 11, 12, 13, 3, 14, 15, 33, 34, 35, 36, 37, 38, 39, 40, 41, 42, 43, 44, 45, 46, 47, 48, 49, 50, 51, 52, 53, 54, 55, 56, 57, 58, 59, 60, 61, 62, 63, 64, 65, 66, 67, 68, 69, 20, 21, 22, 23, 74, 75, 76, 77, 78, 79, 80, 81, 82, 83, 84] (by decide +kernel) (by decide +kernel)
set_option maxRecDepth 20000 in
theorem gX7_plate_X7_needs : GoodIn wsX7_plate (wsV RX7 105 RX7 yX7_needs wsX7_needs) := goodIn_app (goodIn_of _ (by decide +kernel)) ggX7_plate_X7_needs
theorem dX7_plate_0 : decode cX7_plate 0 = .ok (.iload_n 1, 1) := by decide +kernel
theorem dX7_plate_1 : decode cX7_plate 1 = .ok (.iload_n 2, 1) := by decide +kernel
theorem dX7_plate_2 : decode cX7_plate 2 = .ok (.invokestatic 85, 3) := by decide +kernel
theorem dX7_plate_5 : decode cX7_plate 5 = .ok (.istore 4, 2) := by decide +kernel
theorem dX7_plate_7 : decode cX7_plate 7 = .ok (.iload 4, 2) := by decide +kernel
theorem dX7_plate_9 : decode cX7_plate 9 = .ok (.ifCond .ge 5, 3) := by decide +kernel
theorem dX7_plate_12 : decode cX7_plate 12 = .ok (.iconst (-1), 1) := by decide +kernel
theorem dX7_plate_13 : decode cX7_plate 13 = .ok (.ireturn, 1) := by decide +kernel
theorem dX7_plate_14 : decode cX7_plate 14 = .ok (.iload_n 3, 1) := by decide +kernel
theorem dX7_plate_15 : decode cX7_plate 15 = .ok (.tableswitch 87 0 5 #[37, 48, 59, 66, 73, 80], 37) := by decide +kernel
theorem dX7_plate_52 : decode cX7_plate 52 = .ok (.aload_n 0, 1) := by decide +kernel
theorem dX7_plate_53 : decode cX7_plate 53 = .ok (.sipush 7120, 3) := by decide +kernel
theorem dX7_plate_56 : decode cX7_plate 56 = .ok (.iload 4, 2) := by decide +kernel
theorem dX7_plate_58 : decode cX7_plate 58 = .ok (.iadd, 1) := by decide +kernel
theorem dX7_plate_59 : decode cX7_plate 59 = .ok (.invokevirtual 62, 3) := by decide +kernel
theorem dX7_plate_62 : decode cX7_plate 62 = .ok (.ireturn, 1) := by decide +kernel
theorem dX7_plate_63 : decode cX7_plate 63 = .ok (.aload_n 0, 1) := by decide +kernel
theorem dX7_plate_64 : decode cX7_plate 64 = .ok (.sipush 7136, 3) := by decide +kernel
theorem dX7_plate_67 : decode cX7_plate 67 = .ok (.iload 4, 2) := by decide +kernel
theorem dX7_plate_69 : decode cX7_plate 69 = .ok (.iadd, 1) := by decide +kernel
theorem dX7_plate_70 : decode cX7_plate 70 = .ok (.invokevirtual 62, 3) := by decide +kernel
theorem dX7_plate_73 : decode cX7_plate 73 = .ok (.ireturn, 1) := by decide +kernel
theorem dX7_plate_74 : decode cX7_plate 74 = .ok (.aload_n 0, 1) := by decide +kernel
theorem dX7_plate_75 : decode cX7_plate 75 = .ok (.iload 4, 2) := by decide +kernel
theorem dX7_plate_77 : decode cX7_plate 77 = .ok (.invokevirtual 114, 3) := by decide +kernel
theorem dX7_plate_80 : decode cX7_plate 80 = .ok (.ireturn, 1) := by decide +kernel
theorem dX7_plate_81 : decode cX7_plate 81 = .ok (.aload_n 0, 1) := by decide +kernel
theorem dX7_plate_82 : decode cX7_plate 82 = .ok (.iload 4, 2) := by decide +kernel
theorem dX7_plate_84 : decode cX7_plate 84 = .ok (.invokevirtual 192, 3) := by decide +kernel
theorem dX7_plate_87 : decode cX7_plate 87 = .ok (.ireturn, 1) := by decide +kernel
theorem dX7_plate_88 : decode cX7_plate 88 = .ok (.aload_n 0, 1) := by decide +kernel
theorem dX7_plate_89 : decode cX7_plate 89 = .ok (.iload 4, 2) := by decide +kernel
theorem dX7_plate_91 : decode cX7_plate 91 = .ok (.invokevirtual 195, 3) := by decide +kernel
theorem dX7_plate_94 : decode cX7_plate 94 = .ok (.ireturn, 1) := by decide +kernel
theorem dX7_plate_95 : decode cX7_plate 95 = .ok (.aload_n 0, 1) := by decide +kernel
theorem dX7_plate_96 : decode cX7_plate 96 = .ok (.iload 4, 2) := by decide +kernel
theorem dX7_plate_98 : decode cX7_plate 98 = .ok (.invokevirtual 105, 3) := by decide +kernel
theorem dX7_plate_101 : decode cX7_plate 101 = .ok (.ireturn, 1) := by decide +kernel
theorem dX7_plate_102 : decode cX7_plate 102 = .ok (.bipush (-2), 2) := by decide +kernel
theorem dX7_plate_104 : decode cX7_plate 104 = .ok (.ireturn, 1) := by decide +kernel
set_option maxRecDepth 20000 in
theorem ggX7_petal_X7_roseOf : GoodIn wsX7_petal wsX7_roseOf := goodIn_r _ [4, 5, 6, 3, 7, 8, 9, 10] (by decide +kernel) (by decide +kernel)
set_option maxRecDepth 20000 in
theorem gX7_petal_X7_roseOf : GoodIn wsX7_petal (va_wsS RX7 85 yX7_roseOf wsX7_roseOf) := goodIn_app (goodIn_of _ (by decide +kernel)) ggX7_petal_X7_roseOf
set_option maxRecDepth 20000 in
theorem ggX7_petal_X7_isPart : GoodIn wsX7_petal wsX7_isPart := goodIn_r _ [13, 14, 15, 3, 16, 8, 9, 10] (by decide +kernel) (by decide +kernel)
set_option maxRecDepth 20000 in
theorem gX7_petal_X7_isPart : GoodIn wsX7_petal (va_wsS RX7 185 yX7_isPart wsX7_isPart) := goodIn_app (goodIn_of _ (by decide +kernel)) ggX7_petal_X7_isPart
set_option maxRecDepth 20000 in
theorem ggX7_petal_X7_petalOf : GoodIn wsX7_petal wsX7_petalOf := goodIn_r _ [20, 21, 22, 23, 3, 24, 25, 26, 27, 28, 29, 30, 31, 32, 33, 34, 35, 36] (by decide +kernel) (by decide +kernel)
set_option maxRecDepth 20000 in
theorem gX7_petal_X7_petalOf : GoodIn wsX7_petal (wsV RX7 102 RX7 yX7_petalOf wsX7_petalOf) := goodIn_app (goodIn_of _ (by decide +kernel)) ggX7_petal_X7_petalOf
theorem dX7_petal_0 : decode cX7_petal 0 = .ok (.iload_n 1, 1) := by decide +kernel
theorem dX7_petal_1 : decode cX7_petal 1 = .ok (.iload_n 2, 1) := by decide +kernel
theorem dX7_petal_2 : decode cX7_petal 2 = .ok (.invokestatic 85, 3) := by decide +kernel
theorem dX7_petal_5 : decode cX7_petal 5 = .ok (.istore 5, 2) := by decide +kernel
theorem dX7_petal_7 : decode cX7_petal 7 = .ok (.iload 5, 2) := by decide +kernel
theorem dX7_petal_9 : decode cX7_petal 9 = .ok (.ifCond .lt 27, 3) := by decide +kernel
theorem dX7_petal_12 : decode cX7_petal 12 = .ok (.iload_n 3, 1) := by decide +kernel
theorem dX7_petal_13 : decode cX7_petal 13 = .ok (.iload 4, 2) := by decide +kernel
theorem dX7_petal_15 : decode cX7_petal 15 = .ok (.invokestatic 185, 3) := by decide +kernel
theorem dX7_petal_18 : decode cX7_petal 18 = .ok (.ifCond .eq 18, 3) := by decide +kernel
theorem dX7_petal_21 : decode cX7_petal 21 = .ok (.aload_n 0, 1) := by decide +kernel
theorem dX7_petal_22 : decode cX7_petal 22 = .ok (.iload 5, 2) := by decide +kernel
theorem dX7_petal_24 : decode cX7_petal 24 = .ok (.iconst 3, 1) := by decide +kernel
theorem dX7_petal_25 : decode cX7_petal 25 = .ok (.iload_n 3, 1) := by decide +kernel
theorem dX7_petal_26 : decode cX7_petal 26 = .ok (.imul, 1) := by decide +kernel
theorem dX7_petal_27 : decode cX7_petal 27 = .ok (.iload 4, 2) := by decide +kernel
theorem dX7_petal_29 : decode cX7_petal 29 = .ok (.iadd, 1) := by decide +kernel
theorem dX7_petal_30 : decode cX7_petal 30 = .ok (.invokevirtual 102, 3) := by decide +kernel
theorem dX7_petal_33 : decode cX7_petal 33 = .ok (.goto 4, 3) := by decide +kernel
theorem dX7_petal_36 : decode cX7_petal 36 = .ok (.iconst (-1), 1) := by decide +kernel
theorem dX7_petal_37 : decode cX7_petal 37 = .ok (.ireturn, 1) := by decide +kernel
set_option maxRecDepth 20000 in
theorem ggX7_reasonOf_X7_hoursOf : GoodIn wsX7_reasonOf wsX7_hoursOf := goodIn_r _ [5, 6, 7, 8, 4, 9, 10, 11, 12, 13, 14, 15, 16, 17, 18, 19, 20, 21, 22, 23, 24, 25, 26, 27, 28, 29, 30, 31, 61, 62, 63, 64, 65, 66, 67, 68, 69, 70, 71] (by decide +kernel) (by decide +kernel)
set_option maxRecDepth 20000 in
theorem gX7_reasonOf_X7_hoursOf : GoodIn wsX7_reasonOf (wsV RX7 71 RX7 yX7_hoursOf wsX7_hoursOf) := goodIn_app (goodIn_of _ (by decide +kernel)) ggX7_reasonOf_X7_hoursOf
set_option maxRecDepth 20000 in
theorem ggX7_reasonOf_X7_differs : GoodIn wsX7_reasonOf wsX7_differs := goodIn_r _ [35, 36, 28, 29, 30, 4, 31, 15, 37, 38, 39, 40, 1, 2, 3, 5, 6, 7, 8, 9, 10, 11, 12, 13, 14, 16, 17, 18, 19, 20, 21, 22, 23, 24, 25, 26, 27, 41, 42, 43, 44, 45, 46, 47, 48, 49, 50, 51, 52, 61, 62, 63, 64, 65, 66, 67, 68, 69, 70, 71] (by decide +kernel) (by decide +kernel)
set_option maxRecDepth 20000 in
theorem gX7_reasonOf_X7_differs : GoodIn wsX7_reasonOf (wsV RX7 111 RX7 yX7_differs wsX7_differs) := goodIn_app (goodIn_of _ (by decide +kernel)) ggX7_reasonOf_X7_differs
set_option maxRecDepth 20000 in
theorem ggX7_reasonOf_X7_isTooMuch : GoodIn wsX7_reasonOf wsX7_isTooMuch := goodIn_r _ [56, 15, 57, 58, 59, 4, 60, 36, 28, 29, 30, 31, 37, 38, 39, 40, 1, 2, 3, 5, 6, 7, 8, 9, 10, 11, 12, 13, 14, 16, 17, 18, 19, 20, 21, 22, 23, 24, 25, 26, 27, 41, 42, 43, 44, 45, 46, 47, 48, 49, 50, 51, 52, 61, 62, 63, 64, 65, 66, 67, 68, 69, 70, 71] (by decide +kernel) (by decide +kernel)
set_option maxRecDepth 20000 in
theorem gX7_reasonOf_X7_isTooMuch : GoodIn wsX7_reasonOf (wsV RX7 108 RX7 yX7_isTooMuch wsX7_isTooMuch) := goodIn_app (goodIn_of _ (by decide +kernel)) ggX7_reasonOf_X7_isTooMuch
theorem dX7_reasonOf_0 : decode cX7_reasonOf 0 = .ok (.aload_n 0, 1) := by decide +kernel
theorem dX7_reasonOf_1 : decode cX7_reasonOf 1 = .ok (.iload_n 1, 1) := by decide +kernel
theorem dX7_reasonOf_2 : decode cX7_reasonOf 2 = .ok (.invokevirtual 71, 3) := by decide +kernel
theorem dX7_reasonOf_5 : decode cX7_reasonOf 5 = .ok (.ifCond .ne 7, 3) := by decide +kernel
theorem dX7_reasonOf_8 : decode cX7_reasonOf 8 = .ok (.iconst 1, 1) := by decide +kernel
theorem dX7_reasonOf_9 : decode cX7_reasonOf 9 = .ok (.goto 28, 3) := by decide +kernel
theorem dX7_reasonOf_12 : decode cX7_reasonOf 12 = .ok (.aload_n 0, 1) := by decide +kernel
theorem dX7_reasonOf_13 : decode cX7_reasonOf 13 = .ok (.iload_n 1, 1) := by decide +kernel
theorem dX7_reasonOf_14 : decode cX7_reasonOf 14 = .ok (.invokevirtual 111, 3) := by decide +kernel
theorem dX7_reasonOf_17 : decode cX7_reasonOf 17 = .ok (.ifCond .ne 7, 3) := by decide +kernel
theorem dX7_reasonOf_20 : decode cX7_reasonOf 20 = .ok (.iconst 2, 1) := by decide +kernel
theorem dX7_reasonOf_21 : decode cX7_reasonOf 21 = .ok (.goto 16, 3) := by decide +kernel
theorem dX7_reasonOf_24 : decode cX7_reasonOf 24 = .ok (.aload_n 0, 1) := by decide +kernel
theorem dX7_reasonOf_25 : decode cX7_reasonOf 25 = .ok (.iload_n 1, 1) := by decide +kernel
theorem dX7_reasonOf_26 : decode cX7_reasonOf 26 = .ok (.invokevirtual 108, 3) := by decide +kernel
theorem dX7_reasonOf_29 : decode cX7_reasonOf 29 = .ok (.ifCond .eq 7, 3) := by decide +kernel
theorem dX7_reasonOf_32 : decode cX7_reasonOf 32 = .ok (.iconst 3, 1) := by decide +kernel
theorem dX7_reasonOf_33 : decode cX7_reasonOf 33 = .ok (.goto 4, 3) := by decide +kernel
theorem dX7_reasonOf_36 : decode cX7_reasonOf 36 = .ok (.iconst 0, 1) := by decide +kernel
theorem dX7_reasonOf_37 : decode cX7_reasonOf 37 = .ok (.ireturn, 1) := by decide +kernel
set_option maxRecDepth 20000 in
theorem ggX7_reason_X7_roseOf : GoodIn wsX7_reason wsX7_roseOf := goodIn_r _ [4, 5, 6, 3, 7, 8, 9, 10] (by decide +kernel) (by decide +kernel)
set_option maxRecDepth 20000 in
theorem gX7_reason_X7_roseOf : GoodIn wsX7_reason (va_wsS RX7 85 yX7_roseOf wsX7_roseOf) := goodIn_app (goodIn_of _ (by decide +kernel)) ggX7_reason_X7_roseOf
set_option maxRecDepth 20000 in
theorem ggX7_reason_X7_reasonOf : GoodIn wsX7_reason wsX7_reasonOf := goodIn_r _ [14, 15, 16, 17, 3, 18, 19, 20, 21, 22, 23, 24, 25, 26, 27, 28, 29, 30, 31, 32, 33, 34, 35, 36, 37, 38, 39, 40, 41, 42, 43, 44, 45, 46, 47, 48, 49, 50, 51, 52, 53, 54, 55, 56, 57, 58, 59, 60, 61, 62, 63, 64, 65, 66, 67, 68, 69, 70, 71, 72, 73, 74, 75, 76, 77, 78, 79, 80, 81, 82, 83, 84] (by decide +kernel) (by decide +kernel)
set_option maxRecDepth 20000 in
theorem gX7_reason_X7_reasonOf : GoodIn wsX7_reason (wsV RX7 198 RX7 yX7_reasonOf wsX7_reasonOf) := goodIn_app (goodIn_of _ (by decide +kernel)) ggX7_reason_X7_reasonOf
theorem dX7_reason_0 : decode cX7_reason 0 = .ok (.iload_n 1, 1) := by decide +kernel
theorem dX7_reason_1 : decode cX7_reason 1 = .ok (.iload_n 2, 1) := by decide +kernel
theorem dX7_reason_2 : decode cX7_reason 2 = .ok (.invokestatic 85, 3) := by decide +kernel
theorem dX7_reason_5 : decode cX7_reason 5 = .ok (.istore_n 3, 1) := by decide +kernel
theorem dX7_reason_6 : decode cX7_reason 6 = .ok (.iload_n 3, 1) := by decide +kernel
theorem dX7_reason_7 : decode cX7_reason 7 = .ok (.ifCond .ge 7, 3) := by decide +kernel
theorem dX7_reason_10 : decode cX7_reason 10 = .ok (.iconst (-1), 1) := by decide +kernel
theorem dX7_reason_11 : decode cX7_reason 11 = .ok (.goto 8, 3) := by decide +kernel
theorem dX7_reason_14 : decode cX7_reason 14 = .ok (.aload_n 0, 1) := by decide +kernel
theorem dX7_reason_15 : decode cX7_reason 15 = .ok (.iload_n 3, 1) := by decide +kernel
theorem dX7_reason_16 : decode cX7_reason 16 = .ok (.invokevirtual 198, 3) := by decide +kernel
theorem dX7_reason_19 : decode cX7_reason 19 = .ok (.ireturn, 1) := by decide +kernel
set_option maxRecDepth 20000 in
theorem ggX7_nextPlate_X7_reasonOf : GoodIn wsX7_nextPlate wsX7_reasonOf := goodIn_r _ [5, 6, 7, 8, 4, 9, 10, 11, 12, 13, 14, 15, 16, 17, 18, 19, 20, 21, 22, 23, 24, 25, 26, 27, 28, 29, 30, 31, 32, 33, 34, 35, 36, 37, 38, 39, 40, 41, 42, 43, 44, 45, 46, 47, 48, 49, 50, 51, 52, 53, 54, 55, 56, 57, 58, 59, 60, 61, 62, 63, 64, 69, 70, 71, 72, 73, 74, 75, 76, 77, 78, 79] (by decide +kernel) (by decide +kernel)
set_option maxRecDepth 20000 in
theorem gX7_nextPlate_X7_reasonOf : GoodIn wsX7_nextPlate (wsV RX7 198 RX7 yX7_reasonOf wsX7_reasonOf) := goodIn_app (goodIn_of _ (by decide +kernel)) ggX7_nextPlate_X7_reasonOf
set_option maxRecDepth 20000 in
theorem ggX7_nextPlate_X7_farOff : GoodIn wsX7_nextPlate wsX7_farOff := goodIn_r _ [68, 40, 32, 33, 34, 4, 35, 19, 41, 42, 43, 44, 6, 7, 8, 9, 10, 11, 12, 13, 14, 15, 16, 17, 18, 20, 21, 22, 23, 24, 25, 26, 27, 28, 29, 30, 31, 45, 46, 47, 48, 49, 50, 51, 52, 53, 54, 55, 56, 69, 70, 71, 72, 73, 74, 75, 76, 77, 78, 79] (by decide +kernel) (by decide +kernel)
set_option maxRecDepth 20000 in
theorem gX7_nextPlate_X7_farOff : GoodIn wsX7_nextPlate (wsV RX7 195 RX7 yX7_farOff wsX7_farOff) := goodIn_app (goodIn_of _ (by decide +kernel)) ggX7_nextPlate_X7_farOff
theorem dX7_nextPlate_0 : decode cX7_nextPlate 0 = .ok (.bipush (-5), 2) := by decide +kernel
theorem dX7_nextPlate_2 : decode cX7_nextPlate 2 = .ok (.istore_n 1, 1) := by decide +kernel
theorem dX7_nextPlate_3 : decode cX7_nextPlate 3 = .ok (.iconst 0, 1) := by decide +kernel
theorem dX7_nextPlate_4 : decode cX7_nextPlate 4 = .ok (.istore_n 2, 1) := by decide +kernel
theorem dX7_nextPlate_5 : decode cX7_nextPlate 5 = .ok (.iconst 0, 1) := by decide +kernel
theorem dX7_nextPlate_6 : decode cX7_nextPlate 6 = .ok (.istore_n 3, 1) := by decide +kernel
theorem dX7_nextPlate_7 : decode cX7_nextPlate 7 = .ok (.iload_n 3, 1) := by decide +kernel
theorem dX7_nextPlate_8 : decode cX7_nextPlate 8 = .ok (.bipush 16, 2) := by decide +kernel
theorem dX7_nextPlate_10 : decode cX7_nextPlate 10 = .ok (.if_icmp .ge 53, 3) := by decide +kernel
theorem dX7_nextPlate_13 : decode cX7_nextPlate 13 = .ok (.aload_n 0, 1) := by decide +kernel
theorem dX7_nextPlate_14 : decode cX7_nextPlate 14 = .ok (.iload_n 3, 1) := by decide +kernel
theorem dX7_nextPlate_15 : decode cX7_nextPlate 15 = .ok (.invokevirtual 198, 3) := by decide +kernel
theorem dX7_nextPlate_18 : decode cX7_nextPlate 18 = .ok (.ifCond .ne 11, 3) := by decide +kernel
theorem dX7_nextPlate_21 : decode cX7_nextPlate 21 = .ok (.aload_n 0, 1) := by decide +kernel
theorem dX7_nextPlate_22 : decode cX7_nextPlate 22 = .ok (.iload_n 3, 1) := by decide +kernel
theorem dX7_nextPlate_23 : decode cX7_nextPlate 23 = .ok (.invokevirtual 195, 3) := by decide +kernel
theorem dX7_nextPlate_26 : decode cX7_nextPlate 26 = .ok (.goto 4, 3) := by decide +kernel
theorem dX7_nextPlate_29 : decode cX7_nextPlate 29 = .ok (.iconst 0, 1) := by decide +kernel
theorem dX7_nextPlate_30 : decode cX7_nextPlate 30 = .ok (.istore 4, 2) := by decide +kernel
theorem dX7_nextPlate_32 : decode cX7_nextPlate 32 = .ok (.iload 4, 2) := by decide +kernel
theorem dX7_nextPlate_34 : decode cX7_nextPlate 34 = .ok (.iload_n 2, 1) := by decide +kernel
theorem dX7_nextPlate_35 : decode cX7_nextPlate 35 = .ok (.if_icmp .le 7, 3) := by decide +kernel
theorem dX7_nextPlate_38 : decode cX7_nextPlate 38 = .ok (.iload_n 3, 1) := by decide +kernel
theorem dX7_nextPlate_39 : decode cX7_nextPlate 39 = .ok (.goto 4, 3) := by decide +kernel
theorem dX7_nextPlate_42 : decode cX7_nextPlate 42 = .ok (.iload_n 1, 1) := by decide +kernel
theorem dX7_nextPlate_43 : decode cX7_nextPlate 43 = .ok (.istore_n 1, 1) := by decide +kernel
theorem dX7_nextPlate_44 : decode cX7_nextPlate 44 = .ok (.iload 4, 2) := by decide +kernel
theorem dX7_nextPlate_46 : decode cX7_nextPlate 46 = .ok (.iload_n 2, 1) := by decide +kernel
theorem dX7_nextPlate_47 : decode cX7_nextPlate 47 = .ok (.if_icmp .le 8, 3) := by decide +kernel
theorem dX7_nextPlate_50 : decode cX7_nextPlate 50 = .ok (.iload 4, 2) := by decide +kernel
theorem dX7_nextPlate_52 : decode cX7_nextPlate 52 = .ok (.goto 4, 3) := by decide +kernel
theorem dX7_nextPlate_55 : decode cX7_nextPlate 55 = .ok (.iload_n 2, 1) := by decide +kernel
theorem dX7_nextPlate_56 : decode cX7_nextPlate 56 = .ok (.istore_n 2, 1) := by decide +kernel
theorem dX7_nextPlate_57 : decode cX7_nextPlate 57 = .ok (.iinc 3 1, 3) := by decide +kernel
theorem dX7_nextPlate_60 : decode cX7_nextPlate 60 = .ok (.goto (-53), 3) := by decide +kernel
theorem dX7_nextPlate_63 : decode cX7_nextPlate 63 = .ok (.iload_n 1, 1) := by decide +kernel
theorem dX7_nextPlate_64 : decode cX7_nextPlate 64 = .ok (.ireturn, 1) := by decide +kernel
set_option maxRecDepth 20000 in
theorem ggX7_ofPlates_X7_num : GoodIn wsX7_ofPlates wsX7_num := goodIn_r _ [5, 6, 53, 54, 55, 56, 57, 58, 59, 60, 61, 62, 63] (by decide +kernel) (by decide +kernel)
set_option maxRecDepth 20000 in
theorem gX7_ofPlates_X7_num : GoodIn wsX7_ofPlates (wsV RX7 62 RX7 yX7_num wsX7_num) := goodIn_app (goodIn_of _ (by decide +kernel)) ggX7_ofPlates_X7_num
set_option maxRecDepth 20000 in
theorem ggX7_ofPlates_X7_differs : GoodIn wsX7_ofPlates wsX7_differs := goodIn_r _ [10, 11, 1, 2, 3, 4, 5, 6, 12, 13, 14, 15, 16, 17, 18, 19, 20, 21, 22, 23, 24, 25, 26, 27, 28, 29, 30, 31, 32, 33, 34, 35, 36, 37, 38, 39, 40, 41, 42, 43, 44, 45, 46, 47, 48, 49, 50, 51, 52, 53, 54, 55, 56, 57, 58, 59, 60, 61, 62, 63] (by decide +kernel) (by decide +kernel)
set_option maxRecDepth 20000 in
theorem gX7_ofPlates_X7_differs : GoodIn wsX7_ofPlates (wsV RX7 111 RX7 yX7_differs wsX7_differs) := goodIn_app (goodIn_of _ (by decide +kernel)) ggX7_ofPlates_X7_differs
theorem dX7_ofPlates_0 : decode cX7_ofPlates 0 = .ok (.iconst 0, 1) := by decide +kernel
theorem dX7_ofPlates_1 : decode cX7_ofPlates 1 = .ok (.istore_n 2, 1) := by decide +kernel
theorem dX7_ofPlates_2 : decode cX7_ofPlates 2 = .ok (.iconst 0, 1) := by decide +kernel
theorem dX7_ofPlates_3 : decode cX7_ofPlates 3 = .ok (.istore_n 3, 1) := by decide +kernel
theorem dX7_ofPlates_4 : decode cX7_ofPlates 4 = .ok (.iload_n 3, 1) := by decide +kernel
theorem dX7_ofPlates_5 : decode cX7_ofPlates 5 = .ok (.bipush 16, 2) := by decide +kernel
theorem dX7_ofPlates_7 : decode cX7_ofPlates 7 = .ok (.if_icmp .ge 42, 3) := by decide +kernel
theorem dX7_ofPlates_10 : decode cX7_ofPlates 10 = .ok (.iload_n 2, 1) := by decide +kernel
theorem dX7_ofPlates_11 : decode cX7_ofPlates 11 = .ok (.iload_n 1, 1) := by decide +kernel
theorem dX7_ofPlates_12 : decode cX7_ofPlates 12 = .ok (.iconst 3, 1) := by decide +kernel
theorem dX7_ofPlates_13 : decode cX7_ofPlates 13 = .ok (.if_icmp .ne 15, 3) := by decide +kernel
theorem dX7_ofPlates_16 : decode cX7_ofPlates 16 = .ok (.aload_n 0, 1) := by decide +kernel
theorem dX7_ofPlates_17 : decode cX7_ofPlates 17 = .ok (.sipush 7136, 3) := by decide +kernel
theorem dX7_ofPlates_20 : decode cX7_ofPlates 20 = .ok (.iload_n 3, 1) := by decide +kernel
theorem dX7_ofPlates_21 : decode cX7_ofPlates 21 = .ok (.iadd, 1) := by decide +kernel
theorem dX7_ofPlates_22 : decode cX7_ofPlates 22 = .ok (.invokevirtual 62, 3) := by decide +kernel
theorem dX7_ofPlates_25 : decode cX7_ofPlates 25 = .ok (.goto 16, 3) := by decide +kernel
theorem dX7_ofPlates_28 : decode cX7_ofPlates 28 = .ok (.aload_n 0, 1) := by decide +kernel
theorem dX7_ofPlates_29 : decode cX7_ofPlates 29 = .ok (.iload_n 3, 1) := by decide +kernel
theorem dX7_ofPlates_30 : decode cX7_ofPlates 30 = .ok (.invokevirtual 111, 3) := by decide +kernel
theorem dX7_ofPlates_33 : decode cX7_ofPlates 33 = .ok (.ifCond .le 7, 3) := by decide +kernel
theorem dX7_ofPlates_36 : decode cX7_ofPlates 36 = .ok (.iconst 1, 1) := by decide +kernel
theorem dX7_ofPlates_37 : decode cX7_ofPlates 37 = .ok (.goto 4, 3) := by decide +kernel
theorem dX7_ofPlates_40 : decode cX7_ofPlates 40 = .ok (.iconst 0, 1) := by decide +kernel
theorem dX7_ofPlates_41 : decode cX7_ofPlates 41 = .ok (.iadd, 1) := by decide +kernel
theorem dX7_ofPlates_42 : decode cX7_ofPlates 42 = .ok (.istore_n 2, 1) := by decide +kernel
theorem dX7_ofPlates_43 : decode cX7_ofPlates 43 = .ok (.iinc 3 1, 3) := by decide +kernel
theorem dX7_ofPlates_46 : decode cX7_ofPlates 46 = .ok (.goto (-42), 3) := by decide +kernel
theorem dX7_ofPlates_49 : decode cX7_ofPlates 49 = .ok (.iload_n 2, 1) := by decide +kernel
theorem dX7_ofPlates_50 : decode cX7_ofPlates 50 = .ok (.ireturn, 1) := by decide +kernel
set_option maxRecDepth 20000 in
theorem ggX7_count_X7_allHours : GoodIn wsX7_count wsX7_allHours := goodIn_r _ [7, 8, 9, 10, 6, 11, 12, 13, 14, 15, 16, 17, 18, 19, 20, 21, 22, 23, 24, 25, 26, 27, 28, 29, 30, 31, 32, 33, 34, 35, 36, 37, 63, 64, 65, 66, 67, 68, 69, 70, 71, 72, 73] (by decide +kernel) (by decide +kernel)
set_option maxRecDepth 20000 in
theorem gX7_count_X7_allHours : GoodIn wsX7_count (wsV RX7 164 RX7 yX7_allHours wsX7_allHours) := goodIn_app (goodIn_of _ (by decide +kernel)) ggX7_count_X7_allHours
set_option maxRecDepth 20000 in
theorem ggX7_count_X7_ofPlates : GoodIn wsX7_count wsX7_ofPlates := goodIn_r _ [41, 34, 35, 36, 6, 37, 21, 42, 43, 44, 45, 46, 47, 48, 49, 50, 8, 9, 10, 11, 12, 13, 14, 15, 16, 17, 18, 19, 20, 22, 23, 24, 25, 26, 27, 28, 29, 30, 31, 32, 33, 51, 52, 53, 54, 55, 56, 57, 58, 59, 60, 61, 62, 63, 64, 65, 66, 67, 68, 69, 70, 71, 72, 73] (by decide +kernel) (by decide +kernel)
set_option maxRecDepth 20000 in
theorem gX7_count_X7_ofPlates : GoodIn wsX7_count (wsV RX7 201 RX7 yX7_ofPlates wsX7_ofPlates) := goodIn_app (goodIn_of _ (by decide +kernel)) ggX7_count_X7_ofPlates
set_option maxRecDepth 20000 in
theorem ggX7_count_X7_num : GoodIn wsX7_count wsX7_num := goodIn_r _ [37, 21, 63, 64, 65, 66, 67, 68, 69, 70, 71, 72, 73] (by decide +kernel) (by decide +kernel)
set_option maxRecDepth 20000 in
theorem gX7_count_X7_num : GoodIn wsX7_count (wsV RX7 62 RX7 yX7_num wsX7_num) := goodIn_app (goodIn_of _ (by decide +kernel)) ggX7_count_X7_num
theorem dX7_count_0 : decode cX7_count 0 = .ok (.iload_n 1, 1) := by decide +kernel
theorem dX7_count_1 : decode cX7_count 1 = .ok (.tableswitch 106 0 10 #[59, 59, 65, 65, 71, 71, 83, 83, 83, 96, 101], 59) := by decide +kernel
theorem dX7_count_60 : decode cX7_count 60 = .ok (.aload_n 0, 1) := by decide +kernel
theorem dX7_count_61 : decode cX7_count 61 = .ok (.iload_n 1, 1) := by decide +kernel
theorem dX7_count_62 : decode cX7_count 62 = .ok (.invokevirtual 164, 3) := by decide +kernel
theorem dX7_count_65 : decode cX7_count 65 = .ok (.ireturn, 1) := by decide +kernel
theorem dX7_count_66 : decode cX7_count 66 = .ok (.aload_n 0, 1) := by decide +kernel
theorem dX7_count_67 : decode cX7_count 67 = .ok (.iload_n 1, 1) := by decide +kernel
theorem dX7_count_68 : decode cX7_count 68 = .ok (.invokevirtual 201, 3) := by decide +kernel
theorem dX7_count_71 : decode cX7_count 71 = .ok (.ireturn, 1) := by decide +kernel
theorem dX7_count_72 : decode cX7_count 72 = .ok (.aload_n 0, 1) := by decide +kernel
theorem dX7_count_73 : decode cX7_count 73 = .ok (.sipush 7155, 3) := by decide +kernel
theorem dX7_count_76 : decode cX7_count 76 = .ok (.iload_n 1, 1) := by decide +kernel
theorem dX7_count_77 : decode cX7_count 77 = .ok (.iadd, 1) := by decide +kernel
theorem dX7_count_78 : decode cX7_count 78 = .ok (.iconst 4, 1) := by decide +kernel
theorem dX7_count_79 : decode cX7_count 79 = .ok (.isub, 1) := by decide +kernel
theorem dX7_count_80 : decode cX7_count 80 = .ok (.invokevirtual 62, 3) := by decide +kernel
theorem dX7_count_83 : decode cX7_count 83 = .ok (.ireturn, 1) := by decide +kernel
theorem dX7_count_84 : decode cX7_count 84 = .ok (.aload_n 0, 1) := by decide +kernel
theorem dX7_count_85 : decode cX7_count 85 = .ok (.sipush 7152, 3) := by decide +kernel
theorem dX7_count_88 : decode cX7_count 88 = .ok (.iload_n 1, 1) := by decide +kernel
theorem dX7_count_89 : decode cX7_count 89 = .ok (.iadd, 1) := by decide +kernel
theorem dX7_count_90 : decode cX7_count 90 = .ok (.bipush 6, 2) := by decide +kernel
theorem dX7_count_92 : decode cX7_count 92 = .ok (.isub, 1) := by decide +kernel
theorem dX7_count_93 : decode cX7_count 93 = .ok (.invokevirtual 62, 3) := by decide +kernel
theorem dX7_count_96 : decode cX7_count 96 = .ok (.ireturn, 1) := by decide +kernel
theorem dX7_count_97 : decode cX7_count 97 = .ok (.aload_n 0, 1) := by decide +kernel
theorem dX7_count_98 : decode cX7_count 98 = .ok (.getfield 45, 3) := by decide +kernel
theorem dX7_count_101 : decode cX7_count 101 = .ok (.ireturn, 1) := by decide +kernel
theorem dX7_count_102 : decode cX7_count 102 = .ok (.aload_n 0, 1) := by decide +kernel
theorem dX7_count_103 : decode cX7_count 103 = .ok (.getfield 117, 3) := by decide +kernel
theorem dX7_count_106 : decode cX7_count 106 = .ok (.ireturn, 1) := by decide +kernel
theorem dX7_count_107 : decode cX7_count 107 = .ok (.bipush (-2), 2) := by decide +kernel
theorem dX7_count_109 : decode cX7_count 109 = .ok (.ireturn, 1) := by decide +kernel
