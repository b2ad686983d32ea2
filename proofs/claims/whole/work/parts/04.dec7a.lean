theorem dX7_init_0 : decode cX7_init 0 = .ok (.aload_n 0, 1) := by decide +kernel
theorem dX7_init_1 : decode cX7_init 1 = .ok (.invokespecial 1, 3) := by decide +kernel
theorem dX7_init_4 : decode cX7_init 4 = .ok (.aload_n 0, 1) := by decide +kernel
theorem dX7_init_5 : decode cX7_init 5 = .ok (.sipush 7157, 3) := by decide +kernel
theorem dX7_init_8 : decode cX7_init 8 = .ok (.newarray .long, 2) := by decide +kernel
theorem dX7_init_10 : decode cX7_init 10 = .ok (.putfield 7, 3) := by decide +kernel
theorem dX7_init_13 : decode cX7_init 13 = .ok (.aload_n 0, 1) := by decide +kernel
theorem dX7_init_14 : decode cX7_init 14 = .ok (.sipush 28628, 3) := by decide +kernel
theorem dX7_init_17 : decode cX7_init 17 = .ok (.newarray .long, 2) := by decide +kernel
theorem dX7_init_19 : decode cX7_init 19 = .ok (.putfield 13, 3) := by decide +kernel
theorem dX7_init_22 : decode cX7_init 22 = .ok (.aload_n 0, 1) := by decide +kernel
theorem dX7_init_23 : decode cX7_init 23 = .ok (.sipush 7157, 3) := by decide +kernel
theorem dX7_init_26 : decode cX7_init 26 = .ok (.newarray .long, 2) := by decide +kernel
theorem dX7_init_28 : decode cX7_init 28 = .ok (.putfield 16, 3) := by decide +kernel
theorem dX7_init_31 : decode cX7_init 31 = .ok (.aload_n 0, 1) := by decide +kernel
theorem dX7_init_32 : decode cX7_init 32 = .ok (.bipush 80, 2) := by decide +kernel
theorem dX7_init_34 : decode cX7_init 34 = .ok (.newarray .int, 2) := by decide +kernel
theorem dX7_init_36 : decode cX7_init 36 = .ok (.putfield 19, 3) := by decide +kernel
theorem dX7_init_39 : decode cX7_init 39 = .ok (.aload_n 0, 1) := by decide +kernel
theorem dX7_init_40 : decode cX7_init 40 = .ok (.bipush 48, 2) := by decide +kernel
theorem dX7_init_42 : decode cX7_init 42 = .ok (.newarray .int, 2) := by decide +kernel
theorem dX7_init_44 : decode cX7_init 44 = .ok (.putfield 23, 3) := by decide +kernel
theorem dX7_init_47 : decode cX7_init 47 = .ok (.aload_n 0, 1) := by decide +kernel
theorem dX7_init_48 : decode cX7_init 48 = .ok (.bipush 48, 2) := by decide +kernel
theorem dX7_init_50 : decode cX7_init 50 = .ok (.newarray .int, 2) := by decide +kernel
theorem dX7_init_52 : decode cX7_init 52 = .ok (.putfield 26, 3) := by decide +kernel
theorem dX7_init_55 : decode cX7_init 55 = .ok (.aload_n 0, 1) := by decide +kernel
theorem dX7_init_56 : decode cX7_init 56 = .ok (.bipush 48, 2) := by decide +kernel
theorem dX7_init_58 : decode cX7_init 58 = .ok (.newarray .int, 2) := by decide +kernel
theorem dX7_init_60 : decode cX7_init 60 = .ok (.putfield 29, 3) := by decide +kernel
theorem dX7_init_63 : decode cX7_init 63 = .ok (.aload_n 0, 1) := by decide +kernel
theorem dX7_init_64 : decode cX7_init 64 = .ok (.bipush 16, 2) := by decide +kernel
theorem dX7_init_66 : decode cX7_init 66 = .ok (.newarray .int, 2) := by decide +kernel
theorem dX7_init_68 : decode cX7_init 68 = .ok (.putfield 32, 3) := by decide +kernel
theorem dX7_init_71 : decode cX7_init 71 = .ok (.aload_n 0, 1) := by decide +kernel
theorem dX7_init_72 : decode cX7_init 72 = .ok (.getfield 7, 3) := by decide +kernel
theorem dX7_init_75 : decode cX7_init 75 = .ok (.sipush 7152, 3) := by decide +kernel
theorem dX7_init_78 : decode cX7_init 78 = .ok (.ldc2_w 35, 3) := by decide +kernel
theorem dX7_init_81 : decode cX7_init 81 = .ok (.lastore, 1) := by decide +kernel
theorem dX7_init_82 : decode cX7_init 82 = .ok (.aload_n 0, 1) := by decide +kernel
theorem dX7_init_83 : decode cX7_init 83 = .ok (.getfield 7, 3) := by decide +kernel
theorem dX7_init_86 : decode cX7_init 86 = .ok (.sipush 7153, 3) := by decide +kernel
theorem dX7_init_89 : decode cX7_init 89 = .ok (.ldc2_w 37, 3) := by decide +kernel
theorem dX7_init_92 : decode cX7_init 92 = .ok (.lastore, 1) := by decide +kernel
theorem dX7_init_93 : decode cX7_init 93 = .ok (.aload_n 0, 1) := by decide +kernel
theorem dX7_init_94 : decode cX7_init 94 = .ok (.getfield 7, 3) := by decide +kernel
theorem dX7_init_97 : decode cX7_init 97 = .ok (.sipush 7154, 3) := by decide +kernel
theorem dX7_init_100 : decode cX7_init 100 = .ok (.ldc2_w 39, 3) := by decide +kernel
theorem dX7_init_103 : decode cX7_init 103 = .ok (.lastore, 1) := by decide +kernel
theorem dX7_init_104 : decode cX7_init 104 = .ok (.return_, 1) := by decide +kernel
theorem dX7_in_0 : decode cX7_in 0 = .ok (.iload_n 0, 1) := by decide +kernel
theorem dX7_in_1 : decode cX7_in 1 = .ok (.iload_n 1, 1) := by decide +kernel
theorem dX7_in_2 : decode cX7_in 2 = .ok (.if_icmp .lt 12, 3) := by decide +kernel
theorem dX7_in_5 : decode cX7_in 5 = .ok (.iload_n 0, 1) := by decide +kernel
theorem dX7_in_6 : decode cX7_in 6 = .ok (.iload_n 2, 1) := by decide +kernel
theorem dX7_in_7 : decode cX7_in 7 = .ok (.if_icmp .gt 7, 3) := by decide +kernel
theorem dX7_in_10 : decode cX7_in 10 = .ok (.iconst 1, 1) := by decide +kernel
theorem dX7_in_11 : decode cX7_in 11 = .ok (.goto 4, 3) := by decide +kernel
theorem dX7_in_14 : decode cX7_in 14 = .ok (.iconst 0, 1) := by decide +kernel
theorem dX7_in_15 : decode cX7_in 15 = .ok (.ireturn, 1) := by decide +kernel
set_option maxRecDepth 20000 in
theorem ggX7_isFour_X7_in : GoodIn wsX7_isFour wsX7_in := goodIn_r _ [4] (by decide +kernel) (by decide +kernel)
set_option maxRecDepth 20000 in
theorem gX7_isFour_X7_in : GoodIn wsX7_isFour (va_wsS RX7 41 yX7_in wsX7_in) := goodIn_app (goodIn_of _ (by decide +kernel)) ggX7_isFour_X7_in
theorem dX7_isFour_0 : decode cX7_isFour 0 = .ok (.iload_n 0, 1) := by decide +kernel
theorem dX7_isFour_1 : decode cX7_isFour 1 = .ok (.iconst 0, 1) := by decide +kernel
theorem dX7_isFour_2 : decode cX7_isFour 2 = .ok (.iconst 3, 1) := by decide +kernel
theorem dX7_isFour_3 : decode cX7_isFour 3 = .ok (.invokestatic 41, 3) := by decide +kernel
theorem dX7_isFour_6 : decode cX7_isFour 6 = .ok (.ireturn, 1) := by decide +kernel
set_option maxRecDepth 20000 in
theorem ggX7_isDirection_X7_in : GoodIn wsX7_isDirection wsX7_in := goodIn_r _ [4] (by decide +kernel) (by decide +kernel)
set_option maxRecDepth 20000 in
theorem gX7_isDirection_X7_in : GoodIn wsX7_isDirection (va_wsS RX7 41 yX7_in wsX7_in) := goodIn_app (goodIn_of _ (by decide +kernel)) ggX7_isDirection_X7_in
theorem dX7_isDirection_0 : decode cX7_isDirection 0 = .ok (.iload_n 0, 1) := by decide +kernel
theorem dX7_isDirection_1 : decode cX7_isDirection 1 = .ok (.iconst 0, 1) := by decide +kernel
theorem dX7_isDirection_2 : decode cX7_isDirection 2 = .ok (.bipush 15, 2) := by decide +kernel
theorem dX7_isDirection_4 : decode cX7_isDirection 4 = .ok (.invokestatic 41, 3) := by decide +kernel
theorem dX7_isDirection_7 : decode cX7_isDirection 7 = .ok (.ireturn, 1) := by decide +kernel
theorem dX7_num_0 : decode cX7_num 0 = .ok (.aload_n 0, 1) := by decide +kernel
theorem dX7_num_1 : decode cX7_num 1 = .ok (.getfield 7, 3) := by decide +kernel
theorem dX7_num_4 : decode cX7_num 4 = .ok (.iload_n 1, 1) := by decide +kernel
theorem dX7_num_5 : decode cX7_num 5 = .ok (.laload, 1) := by decide +kernel
theorem dX7_num_6 : decode cX7_num 6 = .ok (.l2i, 1) := by decide +kernel
theorem dX7_num_7 : decode cX7_num 7 = .ok (.ireturn, 1) := by decide +kernel
theorem dX7_remembers_0 : decode cX7_remembers 0 = .ok (.aload_n 0, 1) := by decide +kernel
theorem dX7_remembers_1 : decode cX7_remembers 1 = .ok (.getfield 45, 3) := by decide +kernel
theorem dX7_remembers_4 : decode cX7_remembers 4 = .ok (.iconst 4, 1) := by decide +kernel
theorem dX7_remembers_5 : decode cX7_remembers 5 = .ok (.if_icmp .ne 44, 3) := by decide +kernel
theorem dX7_remembers_8 : decode cX7_remembers 8 = .ok (.iconst 0, 1) := by decide +kernel
theorem dX7_remembers_9 : decode cX7_remembers 9 = .ok (.istore_n 1, 1) := by decide +kernel
theorem dX7_remembers_10 : decode cX7_remembers 10 = .ok (.iload_n 1, 1) := by decide +kernel
theorem dX7_remembers_11 : decode cX7_remembers 11 = .ok (.sipush 21471, 3) := by decide +kernel
theorem dX7_remembers_14 : decode cX7_remembers 14 = .ok (.if_icmp .ge 25, 3) := by decide +kernel
theorem dX7_remembers_17 : decode cX7_remembers 17 = .ok (.aload_n 0, 1) := by decide +kernel
theorem dX7_remembers_18 : decode cX7_remembers 18 = .ok (.getfield 13, 3) := by decide +kernel
theorem dX7_remembers_21 : decode cX7_remembers 21 = .ok (.iload_n 1, 1) := by decide +kernel
theorem dX7_remembers_22 : decode cX7_remembers 22 = .ok (.aload_n 0, 1) := by decide +kernel
theorem dX7_remembers_23 : decode cX7_remembers 23 = .ok (.getfield 13, 3) := by decide +kernel
theorem dX7_remembers_26 : decode cX7_remembers 26 = .ok (.sipush 7157, 3) := by decide +kernel
theorem dX7_remembers_29 : decode cX7_remembers 29 = .ok (.iload_n 1, 1) := by decide +kernel
theorem dX7_remembers_30 : decode cX7_remembers 30 = .ok (.iadd, 1) := by decide +kernel
theorem dX7_remembers_31 : decode cX7_remembers 31 = .ok (.laload, 1) := by decide +kernel
theorem dX7_remembers_32 : decode cX7_remembers 32 = .ok (.lastore, 1) := by decide +kernel
theorem dX7_remembers_33 : decode cX7_remembers 33 = .ok (.iinc 1 1, 3) := by decide +kernel
theorem dX7_remembers_36 : decode cX7_remembers 36 = .ok (.goto (-26), 3) := by decide +kernel
theorem dX7_remembers_39 : decode cX7_remembers 39 = .ok (.aload_n 0, 1) := by decide +kernel
theorem dX7_remembers_40 : decode cX7_remembers 40 = .ok (.dup, 1) := by decide +kernel
theorem dX7_remembers_41 : decode cX7_remembers 41 = .ok (.getfield 45, 3) := by decide +kernel
theorem dX7_remembers_44 : decode cX7_remembers 44 = .ok (.iconst 1, 1) := by decide +kernel
theorem dX7_remembers_45 : decode cX7_remembers 45 = .ok (.isub, 1) := by decide +kernel
theorem dX7_remembers_46 : decode cX7_remembers 46 = .ok (.putfield 45, 3) := by decide +kernel
theorem dX7_remembers_49 : decode cX7_remembers 49 = .ok (.iconst 0, 1) := by decide +kernel
theorem dX7_remembers_50 : decode cX7_remembers 50 = .ok (.istore_n 1, 1) := by decide +kernel
theorem dX7_remembers_51 : decode cX7_remembers 51 = .ok (.iload_n 1, 1) := by decide +kernel
theorem dX7_remembers_52 : decode cX7_remembers 52 = .ok (.sipush 7157, 3) := by decide +kernel
theorem dX7_remembers_55 : decode cX7_remembers 55 = .ok (.if_icmp .ge 30, 3) := by decide +kernel
theorem dX7_remembers_58 : decode cX7_remembers 58 = .ok (.aload_n 0, 1) := by decide +kernel
theorem dX7_remembers_59 : decode cX7_remembers 59 = .ok (.getfield 13, 3) := by decide +kernel
theorem dX7_remembers_62 : decode cX7_remembers 62 = .ok (.sipush 7157, 3) := by decide +kernel
theorem dX7_remembers_65 : decode cX7_remembers 65 = .ok (.aload_n 0, 1) := by decide +kernel
theorem dX7_remembers_66 : decode cX7_remembers 66 = .ok (.getfield 45, 3) := by decide +kernel
theorem dX7_remembers_69 : decode cX7_remembers 69 = .ok (.imul, 1) := by decide +kernel
theorem dX7_remembers_70 : decode cX7_remembers 70 = .ok (.iload_n 1, 1) := by decide +kernel
theorem dX7_remembers_71 : decode cX7_remembers 71 = .ok (.iadd, 1) := by decide +kernel
theorem dX7_remembers_72 : decode cX7_remembers 72 = .ok (.aload_n 0, 1) := by decide +kernel
theorem dX7_remembers_73 : decode cX7_remembers 73 = .ok (.getfield 7, 3) := by decide +kernel
theorem dX7_remembers_76 : decode cX7_remembers 76 = .ok (.iload_n 1, 1) := by decide +kernel
theorem dX7_remembers_77 : decode cX7_remembers 77 = .ok (.laload, 1) := by decide +kernel
theorem dX7_remembers_78 : decode cX7_remembers 78 = .ok (.lastore, 1) := by decide +kernel
theorem dX7_remembers_79 : decode cX7_remembers 79 = .ok (.iinc 1 1, 3) := by decide +kernel
theorem dX7_remembers_82 : decode cX7_remembers 82 = .ok (.goto (-31), 3) := by decide +kernel
theorem dX7_remembers_85 : decode cX7_remembers 85 = .ok (.aload_n 0, 1) := by decide +kernel
theorem dX7_remembers_86 : decode cX7_remembers 86 = .ok (.dup, 1) := by decide +kernel
theorem dX7_remembers_87 : decode cX7_remembers 87 = .ok (.getfield 45, 3) := by decide +kernel
theorem dX7_remembers_90 : decode cX7_remembers 90 = .ok (.iconst 1, 1) := by decide +kernel
theorem dX7_remembers_91 : decode cX7_remembers 91 = .ok (.iadd, 1) := by decide +kernel
theorem dX7_remembers_92 : decode cX7_remembers 92 = .ok (.putfield 45, 3) := by decide +kernel
theorem dX7_remembers_95 : decode cX7_remembers 95 = .ok (.return_, 1) := by decide +kernel
theorem dX7_cellOf_0 : decode cX7_cellOf 0 = .ok (.sipush 1584, 3) := by decide +kernel
theorem dX7_cellOf_3 : decode cX7_cellOf 3 = .ok (.iload_n 0, 1) := by decide +kernel
theorem dX7_cellOf_4 : decode cX7_cellOf 4 = .ok (.imul, 1) := by decide +kernel
theorem dX7_cellOf_5 : decode cX7_cellOf 5 = .ok (.bipush 99, 2) := by decide +kernel
theorem dX7_cellOf_7 : decode cX7_cellOf 7 = .ok (.iload_n 1, 1) := by decide +kernel
theorem dX7_cellOf_8 : decode cX7_cellOf 8 = .ok (.imul, 1) := by decide +kernel
theorem dX7_cellOf_9 : decode cX7_cellOf 9 = .ok (.iadd, 1) := by decide +kernel
theorem dX7_cellOf_10 : decode cX7_cellOf 10 = .ok (.iload_n 2, 1) := by decide +kernel
theorem dX7_cellOf_11 : decode cX7_cellOf 11 = .ok (.iadd, 1) := by decide +kernel
theorem dX7_cellOf_12 : decode cX7_cellOf 12 = .ok (.iconst 1, 1) := by decide +kernel
theorem dX7_cellOf_13 : decode cX7_cellOf 13 = .ok (.isub, 1) := by decide +kernel
theorem dX7_cellOf_14 : decode cX7_cellOf 14 = .ok (.ireturn, 1) := by decide +kernel
set_option maxRecDepth 20000 in
theorem ggX7_at_X7_cellOf : GoodIn wsX7_at wsX7_cellOf := goodIn_r _ [6] (by decide +kernel) (by decide +kernel)
set_option maxRecDepth 20000 in
theorem gX7_at_X7_cellOf : GoodIn wsX7_at (va_wsS RX7 49 yX7_cellOf wsX7_cellOf) := goodIn_app (goodIn_of _ (by decide +kernel)) ggX7_at_X7_cellOf
theorem dX7_at_0 : decode cX7_at 0 = .ok (.iload_n 1, 1) := by decide +kernel
theorem dX7_at_1 : decode cX7_at 1 = .ok (.iload_n 2, 1) := by decide +kernel
theorem dX7_at_2 : decode cX7_at 2 = .ok (.iload_n 3, 1) := by decide +kernel
theorem dX7_at_3 : decode cX7_at 3 = .ok (.invokestatic 49, 3) := by decide +kernel
theorem dX7_at_6 : decode cX7_at 6 = .ok (.istore 4, 2) := by decide +kernel
theorem dX7_at_8 : decode cX7_at 8 = .ok (.aload_n 0, 1) := by decide +kernel
theorem dX7_at_9 : decode cX7_at 9 = .ok (.getfield 7, 3) := by decide +kernel
theorem dX7_at_12 : decode cX7_at 12 = .ok (.iconst 0, 1) := by decide +kernel
theorem dX7_at_13 : decode cX7_at 13 = .ok (.iload 4, 2) := by decide +kernel
theorem dX7_at_15 : decode cX7_at 15 = .ok (.iconst 4, 1) := by decide +kernel
theorem dX7_at_16 : decode cX7_at 16 = .ok (.idiv, 1) := by decide +kernel
theorem dX7_at_17 : decode cX7_at 17 = .ok (.iadd, 1) := by decide +kernel
theorem dX7_at_18 : decode cX7_at 18 = .ok (.laload, 1) := by decide +kernel
theorem dX7_at_19 : decode cX7_at 19 = .ok (.bipush 14, 2) := by decide +kernel
theorem dX7_at_21 : decode cX7_at 21 = .ok (.iload 4, 2) := by decide +kernel
theorem dX7_at_23 : decode cX7_at 23 = .ok (.iconst 4, 1) := by decide +kernel
theorem dX7_at_24 : decode cX7_at 24 = .ok (.irem, 1) := by decide +kernel
theorem dX7_at_25 : decode cX7_at 25 = .ok (.imul, 1) := by decide +kernel
theorem dX7_at_26 : decode cX7_at 26 = .ok (.lshr, 1) := by decide +kernel
theorem dX7_at_27 : decode cX7_at 27 = .ok (.ldc2_w 53, 3) := by decide +kernel
theorem dX7_at_30 : decode cX7_at 30 = .ok (.land, 1) := by decide +kernel
theorem dX7_at_31 : decode cX7_at 31 = .ok (.l2i, 1) := by decide +kernel
theorem dX7_at_32 : decode cX7_at 32 = .ok (.ireturn, 1) := by decide +kernel
set_option maxRecDepth 20000 in
theorem ggX7_puts_X7_cellOf : GoodIn wsX7_puts wsX7_cellOf := goodIn_r _ [5] (by decide +kernel) (by decide +kernel)
set_option maxRecDepth 20000 in
theorem gX7_puts_X7_cellOf : GoodIn wsX7_puts (va_wsS RX7 49 yX7_cellOf wsX7_cellOf) := goodIn_app (goodIn_of _ (by decide +kernel)) ggX7_puts_X7_cellOf
set_option maxRecDepth 20000 in
theorem ggX7_puts_X7_at : GoodIn wsX7_puts wsX7_at := goodIn_r _ [9, 1, 10, 2, 3, 4, 5, 11, 12, 13, 14, 15, 16, 17, 18, 19, 20, 21] (by decide +kernel) (by decide +kernel)
set_option maxRecDepth 20000 in
theorem gX7_puts_X7_at : GoodIn wsX7_puts (wsV RX7 55 RX7 yX7_at wsX7_at) := goodIn_app (goodIn_of _ (by decide +kernel)) ggX7_puts_X7_at
theorem dX7_puts_0 : decode cX7_puts 0 = .ok (.iload_n 1, 1) := by decide +kernel
theorem dX7_puts_1 : decode cX7_puts 1 = .ok (.iload_n 2, 1) := by decide +kernel
theorem dX7_puts_2 : decode cX7_puts 2 = .ok (.iload_n 3, 1) := by decide +kernel
theorem dX7_puts_3 : decode cX7_puts 3 = .ok (.invokestatic 49, 3) := by decide +kernel
theorem dX7_puts_6 : decode cX7_puts 6 = .ok (.istore 5, 2) := by decide +kernel
theorem dX7_puts_8 : decode cX7_puts 8 = .ok (.iload 4, 2) := by decide +kernel
theorem dX7_puts_10 : decode cX7_puts 10 = .ok (.aload_n 0, 1) := by decide +kernel
theorem dX7_puts_11 : decode cX7_puts 11 = .ok (.iload_n 1, 1) := by decide +kernel
theorem dX7_puts_12 : decode cX7_puts 12 = .ok (.iload_n 2, 1) := by decide +kernel
theorem dX7_puts_13 : decode cX7_puts 13 = .ok (.iload_n 3, 1) := by decide +kernel
theorem dX7_puts_14 : decode cX7_puts 14 = .ok (.invokevirtual 55, 3) := by decide +kernel
theorem dX7_puts_17 : decode cX7_puts 17 = .ok (.isub, 1) := by decide +kernel
theorem dX7_puts_18 : decode cX7_puts 18 = .ok (.i2l, 1) := by decide +kernel
theorem dX7_puts_19 : decode cX7_puts 19 = .ok (.bipush 14, 2) := by decide +kernel
theorem dX7_puts_21 : decode cX7_puts 21 = .ok (.iload 5, 2) := by decide +kernel
theorem dX7_puts_23 : decode cX7_puts 23 = .ok (.iconst 4, 1) := by decide +kernel
theorem dX7_puts_24 : decode cX7_puts 24 = .ok (.irem, 1) := by decide +kernel
theorem dX7_puts_25 : decode cX7_puts 25 = .ok (.imul, 1) := by decide +kernel
theorem dX7_puts_26 : decode cX7_puts 26 = .ok (.lshl, 1) := by decide +kernel
theorem dX7_puts_27 : decode cX7_puts 27 = .ok (.lstore 6, 2) := by decide +kernel
theorem dX7_puts_29 : decode cX7_puts 29 = .ok (.aload_n 0, 1) := by decide +kernel
theorem dX7_puts_30 : decode cX7_puts 30 = .ok (.getfield 7, 3) := by decide +kernel
theorem dX7_puts_33 : decode cX7_puts 33 = .ok (.iconst 0, 1) := by decide +kernel
theorem dX7_puts_34 : decode cX7_puts 34 = .ok (.iload 5, 2) := by decide +kernel
theorem dX7_puts_36 : decode cX7_puts 36 = .ok (.iconst 4, 1) := by decide +kernel
theorem dX7_puts_37 : decode cX7_puts 37 = .ok (.idiv, 1) := by decide +kernel
theorem dX7_puts_38 : decode cX7_puts 38 = .ok (.iadd, 1) := by decide +kernel
theorem dX7_puts_39 : decode cX7_puts 39 = .ok (.dup2, 1) := by decide +kernel
theorem dX7_puts_40 : decode cX7_puts 40 = .ok (.laload, 1) := by decide +kernel
theorem dX7_puts_41 : decode cX7_puts 41 = .ok (.lload 6, 2) := by decide +kernel
theorem dX7_puts_43 : decode cX7_puts 43 = .ok (.ladd, 1) := by decide +kernel
theorem dX7_puts_44 : decode cX7_puts 44 = .ok (.lastore, 1) := by decide +kernel
theorem dX7_puts_45 : decode cX7_puts 45 = .ok (.return_, 1) := by decide +kernel
theorem dX7_kindOf_0 : decode cX7_kindOf 0 = .ok (.iload_n 1, 1) := by decide +kernel
theorem dX7_kindOf_1 : decode cX7_kindOf 1 = .ok (.i2l, 1) := by decide +kernel
theorem dX7_kindOf_2 : decode cX7_kindOf 2 = .ok (.aload_n 0, 1) := by decide +kernel
theorem dX7_kindOf_3 : decode cX7_kindOf 3 = .ok (.getfield 7, 3) := by decide +kernel
theorem dX7_kindOf_6 : decode cX7_kindOf 6 = .ok (.sipush 7152, 3) := by decide +kernel
theorem dX7_kindOf_9 : decode cX7_kindOf 9 = .ok (.laload, 1) := by decide +kernel
theorem dX7_kindOf_10 : decode cX7_kindOf 10 = .ok (.lcmp, 1) := by decide +kernel
theorem dX7_kindOf_11 : decode cX7_kindOf 11 = .ok (.ifCond .ge 7, 3) := by decide +kernel
theorem dX7_kindOf_14 : decode cX7_kindOf 14 = .ok (.iconst 0, 1) := by decide +kernel
theorem dX7_kindOf_15 : decode cX7_kindOf 15 = .ok (.goto 22, 3) := by decide +kernel
theorem dX7_kindOf_18 : decode cX7_kindOf 18 = .ok (.iload_n 1, 1) := by decide +kernel
theorem dX7_kindOf_19 : decode cX7_kindOf 19 = .ok (.i2l, 1) := by decide +kernel
theorem dX7_kindOf_20 : decode cX7_kindOf 20 = .ok (.aload_n 0, 1) := by decide +kernel
theorem dX7_kindOf_21 : decode cX7_kindOf 21 = .ok (.getfield 7, 3) := by decide +kernel
theorem dX7_kindOf_24 : decode cX7_kindOf 24 = .ok (.sipush 7153, 3) := by decide +kernel
theorem dX7_kindOf_27 : decode cX7_kindOf 27 = .ok (.laload, 1) := by decide +kernel
theorem dX7_kindOf_28 : decode cX7_kindOf 28 = .ok (.lcmp, 1) := by decide +kernel
theorem dX7_kindOf_29 : decode cX7_kindOf 29 = .ok (.ifCond .ge 7, 3) := by decide +kernel
theorem dX7_kindOf_32 : decode cX7_kindOf 32 = .ok (.iconst 1, 1) := by decide +kernel
theorem dX7_kindOf_33 : decode cX7_kindOf 33 = .ok (.goto 4, 3) := by decide +kernel
theorem dX7_kindOf_36 : decode cX7_kindOf 36 = .ok (.iconst 2, 1) := by decide +kernel
theorem dX7_kindOf_37 : decode cX7_kindOf 37 = .ok (.ireturn, 1) := by decide +kernel
set_option maxRecDepth 20000 in
theorem ggX7_looks_X7_at : GoodIn wsX7_looks wsX7_at := goodIn_r _ [6, 7, 8, 9, 10, 5, 11, 16, 17, 18, 19, 20, 21, 22, 23, 24, 25, 26] (by decide +kernel) (by decide +kernel)
set_option maxRecDepth 20000 in
theorem gX7_looks_X7_at : GoodIn wsX7_looks (wsV RX7 55 RX7 yX7_at wsX7_at) := goodIn_app (goodIn_of _ (by decide +kernel)) ggX7_looks_X7_at
set_option maxRecDepth 20000 in
theorem ggX7_looks_X7_kindOf : GoodIn wsX7_looks wsX7_kindOf := goodIn_r _ [15, 7, 16, 17, 18, 19, 20, 21, 22, 23, 24, 25, 26] (by decide +kernel) (by decide +kernel)
set_option maxRecDepth 20000 in
theorem gX7_looks_X7_kindOf : GoodIn wsX7_looks (wsV RX7 58 RX7 yX7_kindOf wsX7_kindOf) := goodIn_app (goodIn_of _ (by decide +kernel)) ggX7_looks_X7_kindOf
theorem dX7_looks_0 : decode cX7_looks 0 = .ok (.iconst 0, 1) := by decide +kernel
theorem dX7_looks_1 : decode cX7_looks 1 = .ok (.istore_n 2, 1) := by decide +kernel
theorem dX7_looks_2 : decode cX7_looks 2 = .ok (.iconst 0, 1) := by decide +kernel
theorem dX7_looks_3 : decode cX7_looks 3 = .ok (.istore_n 3, 1) := by decide +kernel
theorem dX7_looks_4 : decode cX7_looks 4 = .ok (.iload_n 3, 1) := by decide +kernel
theorem dX7_looks_5 : decode cX7_looks 5 = .ok (.bipush 48, 2) := by decide +kernel
theorem dX7_looks_7 : decode cX7_looks 7 = .ok (.if_icmp .ge 16, 3) := by decide +kernel
theorem dX7_looks_10 : decode cX7_looks 10 = .ok (.aload_n 0, 1) := by decide +kernel
theorem dX7_looks_11 : decode cX7_looks 11 = .ok (.getfield 23, 3) := by decide +kernel
theorem dX7_looks_14 : decode cX7_looks 14 = .ok (.iload_n 3, 1) := by decide +kernel
theorem dX7_looks_15 : decode cX7_looks 15 = .ok (.iconst 0, 1) := by decide +kernel
theorem dX7_looks_16 : decode cX7_looks 16 = .ok (.iastore, 1) := by decide +kernel
theorem dX7_looks_17 : decode cX7_looks 17 = .ok (.iinc 3 1, 3) := by decide +kernel
theorem dX7_looks_20 : decode cX7_looks 20 = .ok (.goto (-16), 3) := by decide +kernel
theorem dX7_looks_23 : decode cX7_looks 23 = .ok (.iconst 0, 1) := by decide +kernel
theorem dX7_looks_24 : decode cX7_looks 24 = .ok (.istore_n 3, 1) := by decide +kernel
theorem dX7_looks_25 : decode cX7_looks 25 = .ok (.iload_n 3, 1) := by decide +kernel
theorem dX7_looks_26 : decode cX7_looks 26 = .ok (.sipush 1584, 3) := by decide +kernel
theorem dX7_looks_29 : decode cX7_looks 29 = .ok (.if_icmp .ge 58, 3) := by decide +kernel
theorem dX7_looks_32 : decode cX7_looks 32 = .ok (.iload_n 3, 1) := by decide +kernel
theorem dX7_looks_33 : decode cX7_looks 33 = .ok (.bipush 99, 2) := by decide +kernel
theorem dX7_looks_35 : decode cX7_looks 35 = .ok (.irem, 1) := by decide +kernel
theorem dX7_looks_36 : decode cX7_looks 36 = .ok (.iconst 1, 1) := by decide +kernel
theorem dX7_looks_37 : decode cX7_looks 37 = .ok (.iadd, 1) := by decide +kernel
theorem dX7_looks_38 : decode cX7_looks 38 = .ok (.istore 4, 2) := by decide +kernel
theorem dX7_looks_40 : decode cX7_looks 40 = .ok (.aload_n 0, 1) := by decide +kernel
theorem dX7_looks_41 : decode cX7_looks 41 = .ok (.iload_n 1, 1) := by decide +kernel
theorem dX7_looks_42 : decode cX7_looks 42 = .ok (.iload_n 3, 1) := by decide +kernel
theorem dX7_looks_43 : decode cX7_looks 43 = .ok (.bipush 99, 2) := by decide +kernel
theorem dX7_looks_45 : decode cX7_looks 45 = .ok (.idiv, 1) := by decide +kernel
theorem dX7_looks_46 : decode cX7_looks 46 = .ok (.iload 4, 2) := by decide +kernel
theorem dX7_looks_48 : decode cX7_looks 48 = .ok (.invokevirtual 55, 3) := by decide +kernel
theorem dX7_looks_51 : decode cX7_looks 51 = .ok (.istore 5, 2) := by decide +kernel
theorem dX7_looks_53 : decode cX7_looks 53 = .ok (.aload_n 0, 1) := by decide +kernel
theorem dX7_looks_54 : decode cX7_looks 54 = .ok (.getfield 23, 3) := by decide +kernel
theorem dX7_looks_57 : decode cX7_looks 57 = .ok (.iconst 3, 1) := by decide +kernel
theorem dX7_looks_58 : decode cX7_looks 58 = .ok (.iload_n 3, 1) := by decide +kernel
theorem dX7_looks_59 : decode cX7_looks 59 = .ok (.bipush 99, 2) := by decide +kernel
theorem dX7_looks_61 : decode cX7_looks 61 = .ok (.idiv, 1) := by decide +kernel
theorem dX7_looks_62 : decode cX7_looks 62 = .ok (.imul, 1) := by decide +kernel
theorem dX7_looks_63 : decode cX7_looks 63 = .ok (.aload_n 0, 1) := by decide +kernel
theorem dX7_looks_64 : decode cX7_looks 64 = .ok (.iload 4, 2) := by decide +kernel
theorem dX7_looks_66 : decode cX7_looks 66 = .ok (.invokevirtual 58, 3) := by decide +kernel
theorem dX7_looks_69 : decode cX7_looks 69 = .ok (.iadd, 1) := by decide +kernel
theorem dX7_looks_70 : decode cX7_looks 70 = .ok (.dup2, 1) := by decide +kernel
theorem dX7_looks_71 : decode cX7_looks 71 = .ok (.iaload, 1) := by decide +kernel
theorem dX7_looks_72 : decode cX7_looks 72 = .ok (.iload 5, 2) := by decide +kernel
theorem dX7_looks_74 : decode cX7_looks 74 = .ok (.iadd, 1) := by decide +kernel
theorem dX7_looks_75 : decode cX7_looks 75 = .ok (.iastore, 1) := by decide +kernel
theorem dX7_looks_76 : decode cX7_looks 76 = .ok (.iload_n 2, 1) := by decide +kernel
theorem dX7_looks_77 : decode cX7_looks 77 = .ok (.iload 5, 2) := by decide +kernel
theorem dX7_looks_79 : decode cX7_looks 79 = .ok (.iadd, 1) := by decide +kernel
theorem dX7_looks_80 : decode cX7_looks 80 = .ok (.istore_n 2, 1) := by decide +kernel
theorem dX7_looks_81 : decode cX7_looks 81 = .ok (.iinc 3 1, 3) := by decide +kernel
theorem dX7_looks_84 : decode cX7_looks 84 = .ok (.goto (-59), 3) := by decide +kernel
theorem dX7_looks_87 : decode cX7_looks 87 = .ok (.iload_n 2, 1) := by decide +kernel
theorem dX7_looks_88 : decode cX7_looks 88 = .ok (.ireturn, 1) := by decide +kernel
set_option maxRecDepth 20000 in
theorem ggX7_calmOf_X7_num : GoodIn wsX7_calmOf wsX7_num := goodIn_r _ [5, 6, 7, 8, 9, 10, 11, 12, 13, 14, 15, 16, 17] (by decide +kernel) (by decide +kernel)
set_option maxRecDepth 20000 in
theorem gX7_calmOf_X7_num : GoodIn wsX7_calmOf (wsV RX7 62 RX7 yX7_num wsX7_num) := goodIn_app (goodIn_of _ (by decide +kernel)) ggX7_calmOf_X7_num
theorem dX7_calmOf_0 : decode cX7_calmOf 0 = .ok (.aload_n 0, 1) := by decide +kernel
theorem dX7_calmOf_1 : decode cX7_calmOf 1 = .ok (.sipush 6336, 3) := by decide +kernel
theorem dX7_calmOf_4 : decode cX7_calmOf 4 = .ok (.iload_n 1, 1) := by decide +kernel
theorem dX7_calmOf_5 : decode cX7_calmOf 5 = .ok (.iadd, 1) := by decide +kernel
theorem dX7_calmOf_6 : decode cX7_calmOf 6 = .ok (.invokevirtual 62, 3) := by decide +kernel
theorem dX7_calmOf_9 : decode cX7_calmOf 9 = .ok (.ireturn, 1) := by decide +kernel
set_option maxRecDepth 20000 in
theorem ggX7_hoursOf_X7_looks : GoodIn wsX7_hoursOf wsX7_looks := goodIn_r _ [5, 6, 7, 8, 9, 4, 10, 11, 12, 13, 14, 15, 16, 17, 18, 19, 28, 29, 30, 31, 32, 33, 34, 35, 36, 37, 38] (by decide +kernel) (by decide +kernel)
set_option maxRecDepth 20000 in
theorem gX7_hoursOf_X7_looks : GoodIn wsX7_hoursOf (wsV RX7 65 RX7 yX7_looks wsX7_looks) := goodIn_app (goodIn_of _ (by decide +kernel)) ggX7_hoursOf_X7_looks
set_option maxRecDepth 20000 in
theorem ggX7_hoursOf_X7_calmOf : GoodIn wsX7_hoursOf wsX7_calmOf := goodIn_r _ [23, 24, 25, 26, 4, 27, 11, 28, 29, 30, 31, 32, 33, 34, 35, 36, 37, 38] (by decide +kernel) (by decide +kernel)
set_option maxRecDepth 20000 in
theorem gX7_hoursOf_X7_calmOf : GoodIn wsX7_hoursOf (wsV RX7 68 RX7 yX7_calmOf wsX7_calmOf) := goodIn_app (goodIn_of _ (by decide +kernel)) ggX7_hoursOf_X7_calmOf
theorem dX7_hoursOf_0 : decode cX7_hoursOf 0 = .ok (.aload_n 0, 1) := by decide +kernel
theorem dX7_hoursOf_1 : decode cX7_hoursOf 1 = .ok (.iload_n 1, 1) := by decide +kernel
theorem dX7_hoursOf_2 : decode cX7_hoursOf 2 = .ok (.invokevirtual 65, 3) := by decide +kernel
theorem dX7_hoursOf_5 : decode cX7_hoursOf 5 = .ok (.aload_n 0, 1) := by decide +kernel
theorem dX7_hoursOf_6 : decode cX7_hoursOf 6 = .ok (.iload_n 1, 1) := by decide +kernel
theorem dX7_hoursOf_7 : decode cX7_hoursOf 7 = .ok (.invokevirtual 68, 3) := by decide +kernel
theorem dX7_hoursOf_10 : decode cX7_hoursOf 10 = .ok (.iadd, 1) := by decide +kernel
theorem dX7_hoursOf_11 : decode cX7_hoursOf 11 = .ok (.ireturn, 1) := by decide +kernel
set_option maxRecDepth 20000 in
theorem ggX7_calmShare_X7_hoursOf : GoodIn wsX7_calmShare wsX7_hoursOf := goodIn_r _ [5, 6, 7, 8, 4, 9, 10, 11, 12, 13, 14, 15, 16, 17, 18, 19, 20, 21, 22, 23, 24, 25, 26, 27, 28, 29, 30, 31, 32, 33, 34, 35, 36, 37, 38, 39, 40, 41, 42] (by decide +kernel) (by decide +kernel)
set_option maxRecDepth 20000 in
theorem gX7_calmShare_X7_hoursOf : GoodIn wsX7_calmShare (wsV RX7 71 RX7 yX7_hoursOf wsX7_hoursOf) := goodIn_app (goodIn_of _ (by decide +kernel)) ggX7_calmShare_X7_hoursOf
set_option maxRecDepth 20000 in
theorem ggX7_calmShare_X7_calmOf : GoodIn wsX7_calmShare wsX7_calmOf := goodIn_r _ [27, 28, 29, 30, 4, 31, 15, 32, 33, 34, 35, 36, 37, 38, 39, 40, 41, 42] (by decide +kernel) (by decide +kernel)
set_option maxRecDepth 20000 in
theorem gX7_calmShare_X7_calmOf : GoodIn wsX7_calmShare (wsV RX7 68 RX7 yX7_calmOf wsX7_calmOf) := goodIn_app (goodIn_of _ (by decide +kernel)) ggX7_calmShare_X7_calmOf
theorem dX7_calmShare_0 : decode cX7_calmShare 0 = .ok (.aload_n 0, 1) := by decide +kernel
theorem dX7_calmShare_1 : decode cX7_calmShare 1 = .ok (.iload_n 1, 1) := by decide +kernel
theorem dX7_calmShare_2 : decode cX7_calmShare 2 = .ok (.invokevirtual 71, 3) := by decide +kernel
theorem dX7_calmShare_5 : decode cX7_calmShare 5 = .ok (.istore_n 2, 1) := by decide +kernel
theorem dX7_calmShare_6 : decode cX7_calmShare 6 = .ok (.iload_n 2, 1) := by decide +kernel
theorem dX7_calmShare_7 : decode cX7_calmShare 7 = .ok (.ifCond .ne 7, 3) := by decide +kernel
theorem dX7_calmShare_10 : decode cX7_calmShare 10 = .ok (.iconst 0, 1) := by decide +kernel
theorem dX7_calmShare_11 : decode cX7_calmShare 11 = .ok (.goto 13, 3) := by decide +kernel
theorem dX7_calmShare_14 : decode cX7_calmShare 14 = .ok (.bipush 100, 2) := by decide +kernel
theorem dX7_calmShare_16 : decode cX7_calmShare 16 = .ok (.aload_n 0, 1) := by decide +kernel
theorem dX7_calmShare_17 : decode cX7_calmShare 17 = .ok (.iload_n 1, 1) := by decide +kernel
theorem dX7_calmShare_18 : decode cX7_calmShare 18 = .ok (.invokevirtual 68, 3) := by decide +kernel
theorem dX7_calmShare_21 : decode cX7_calmShare 21 = .ok (.imul, 1) := by decide +kernel
theorem dX7_calmShare_22 : decode cX7_calmShare 22 = .ok (.iload_n 2, 1) := by decide +kernel
theorem dX7_calmShare_23 : decode cX7_calmShare 23 = .ok (.idiv, 1) := by decide +kernel
theorem dX7_calmShare_24 : decode cX7_calmShare 24 = .ok (.ireturn, 1) := by decide +kernel
theorem dX7_ahead_0 : decode cX7_ahead 0 = .ok (.iconst 0, 1) := by decide +kernel
theorem dX7_ahead_1 : decode cX7_ahead 1 = .ok (.istore_n 3, 1) := by decide +kernel
theorem dX7_ahead_2 : decode cX7_ahead 2 = .ok (.bipush 100, 2) := by decide +kernel
theorem dX7_ahead_4 : decode cX7_ahead 4 = .ok (.aload_n 0, 1) := by decide +kernel
theorem dX7_ahead_5 : decode cX7_ahead 5 = .ok (.getfield 23, 3) := by decide +kernel
theorem dX7_ahead_8 : decode cX7_ahead 8 = .ok (.iload_n 1, 1) := by decide +kernel
theorem dX7_ahead_9 : decode cX7_ahead 9 = .ok (.iaload, 1) := by decide +kernel
theorem dX7_ahead_10 : decode cX7_ahead 10 = .ok (.imul, 1) := by decide +kernel
theorem dX7_ahead_11 : decode cX7_ahead 11 = .ok (.iload_n 2, 1) := by decide +kernel
theorem dX7_ahead_12 : decode cX7_ahead 12 = .ok (.irem, 1) := by decide +kernel
theorem dX7_ahead_13 : decode cX7_ahead 13 = .ok (.istore 4, 2) := by decide +kernel
theorem dX7_ahead_15 : decode cX7_ahead 15 = .ok (.iconst 0, 1) := by decide +kernel
theorem dX7_ahead_16 : decode cX7_ahead 16 = .ok (.istore 5, 2) := by decide +kernel
theorem dX7_ahead_18 : decode cX7_ahead 18 = .ok (.iload 5, 2) := by decide +kernel
theorem dX7_ahead_20 : decode cX7_ahead 20 = .ok (.bipush 48, 2) := by decide +kernel
theorem dX7_ahead_22 : decode cX7_ahead 22 = .ok (.if_icmp .ge 51, 3) := by decide +kernel
theorem dX7_ahead_25 : decode cX7_ahead 25 = .ok (.bipush 100, 2) := by decide +kernel
theorem dX7_ahead_27 : decode cX7_ahead 27 = .ok (.aload_n 0, 1) := by decide +kernel
theorem dX7_ahead_28 : decode cX7_ahead 28 = .ok (.getfield 23, 3) := by decide +kernel
theorem dX7_ahead_31 : decode cX7_ahead 31 = .ok (.iload 5, 2) := by decide +kernel
theorem dX7_ahead_33 : decode cX7_ahead 33 = .ok (.iaload, 1) := by decide +kernel
theorem dX7_ahead_34 : decode cX7_ahead 34 = .ok (.imul, 1) := by decide +kernel
theorem dX7_ahead_35 : decode cX7_ahead 35 = .ok (.iload_n 2, 1) := by decide +kernel
theorem dX7_ahead_36 : decode cX7_ahead 36 = .ok (.irem, 1) := by decide +kernel
theorem dX7_ahead_37 : decode cX7_ahead 37 = .ok (.istore 6, 2) := by decide +kernel
theorem dX7_ahead_39 : decode cX7_ahead 39 = .ok (.iload_n 3, 1) := by decide +kernel
theorem dX7_ahead_40 : decode cX7_ahead 40 = .ok (.iload 6, 2) := by decide +kernel
theorem dX7_ahead_42 : decode cX7_ahead 42 = .ok (.iload 4, 2) := by decide +kernel
theorem dX7_ahead_44 : decode cX7_ahead 44 = .ok (.if_icmp .gt 16, 3) := by decide +kernel
theorem dX7_ahead_47 : decode cX7_ahead 47 = .ok (.iload 6, 2) := by decide +kernel
theorem dX7_ahead_49 : decode cX7_ahead 49 = .ok (.iload 4, 2) := by decide +kernel
theorem dX7_ahead_51 : decode cX7_ahead 51 = .ok (.if_icmp .ne 13, 3) := by decide +kernel
theorem dX7_ahead_54 : decode cX7_ahead 54 = .ok (.iload 5, 2) := by decide +kernel
theorem dX7_ahead_56 : decode cX7_ahead 56 = .ok (.iload_n 1, 1) := by decide +kernel
theorem dX7_ahead_57 : decode cX7_ahead 57 = .ok (.if_icmp .ge 7, 3) := by decide +kernel
theorem dX7_ahead_60 : decode cX7_ahead 60 = .ok (.iconst 1, 1) := by decide +kernel
theorem dX7_ahead_61 : decode cX7_ahead 61 = .ok (.goto 4, 3) := by decide +kernel
theorem dX7_ahead_64 : decode cX7_ahead 64 = .ok (.iconst 0, 1) := by decide +kernel
theorem dX7_ahead_65 : decode cX7_ahead 65 = .ok (.iadd, 1) := by decide +kernel
theorem dX7_ahead_66 : decode cX7_ahead 66 = .ok (.istore_n 3, 1) := by decide +kernel
theorem dX7_ahead_67 : decode cX7_ahead 67 = .ok (.iinc 5 1, 3) := by decide +kernel
theorem dX7_ahead_70 : decode cX7_ahead 70 = .ok (.goto (-52), 3) := by decide +kernel
theorem dX7_ahead_73 : decode cX7_ahead 73 = .ok (.iload_n 3, 1) := by decide +kernel
theorem dX7_ahead_74 : decode cX7_ahead 74 = .ok (.ireturn, 1) := by decide +kernel
set_option maxRecDepth 20000 in
theorem ggX7_finds_X7_looks : GoodIn wsX7_finds wsX7_looks := goodIn_r _ [7, 2, 8, 9, 10, 6, 11, 12, 13, 14, 15, 16, 17, 18, 19, 20, 25, 26, 27, 28, 29, 30, 31, 32, 33, 34, 35] (by decide +kernel) (by decide +kernel)
set_option maxRecDepth 20000 in
theorem gX7_finds_X7_looks : GoodIn wsX7_finds (wsV RX7 65 RX7 yX7_looks wsX7_looks) := goodIn_app (goodIn_of _ (by decide +kernel)) ggX7_finds_X7_looks
set_option maxRecDepth 20000 in
theorem ggX7_finds_X7_ahead : GoodIn wsX7_finds wsX7_ahead := goodIn_r _ [24, 2, 25, 26, 27, 28, 29, 30, 31, 32, 33, 34, 35] (by decide +kernel) (by decide +kernel)
set_option maxRecDepth 20000 in
theorem gX7_finds_X7_ahead : GoodIn wsX7_finds (wsV RX7 74 RX7 yX7_ahead wsX7_ahead) := goodIn_app (goodIn_of _ (by decide +kernel)) ggX7_finds_X7_ahead
theorem dX7_finds_0 : decode cX7_finds 0 = .ok (.aload_n 0, 1) := by decide +kernel
theorem dX7_finds_1 : decode cX7_finds 1 = .ok (.iload_n 1, 1) := by decide +kernel
theorem dX7_finds_2 : decode cX7_finds 2 = .ok (.invokevirtual 65, 3) := by decide +kernel
theorem dX7_finds_5 : decode cX7_finds 5 = .ok (.istore_n 2, 1) := by decide +kernel
theorem dX7_finds_6 : decode cX7_finds 6 = .ok (.iload_n 2, 1) := by decide +kernel
theorem dX7_finds_7 : decode cX7_finds 7 = .ok (.ifCond .ne 7, 3) := by decide +kernel
theorem dX7_finds_10 : decode cX7_finds 10 = .ok (.iconst 0, 1) := by decide +kernel
theorem dX7_finds_11 : decode cX7_finds 11 = .ok (.goto 5, 3) := by decide +kernel
theorem dX7_finds_14 : decode cX7_finds 14 = .ok (.bipush 100, 2) := by decide +kernel
theorem dX7_finds_16 : decode cX7_finds 16 = .ok (.istore_n 3, 1) := by decide +kernel
theorem dX7_finds_17 : decode cX7_finds 17 = .ok (.iconst 0, 1) := by decide +kernel
theorem dX7_finds_18 : decode cX7_finds 18 = .ok (.istore 4, 2) := by decide +kernel
theorem dX7_finds_20 : decode cX7_finds 20 = .ok (.iload 4, 2) := by decide +kernel
theorem dX7_finds_22 : decode cX7_finds 22 = .ok (.bipush 48, 2) := by decide +kernel
theorem dX7_finds_24 : decode cX7_finds 24 = .ok (.if_icmp .ge 46, 3) := by decide +kernel
theorem dX7_finds_27 : decode cX7_finds 27 = .ok (.aload_n 0, 1) := by decide +kernel
theorem dX7_finds_28 : decode cX7_finds 28 = .ok (.getfield 26, 3) := by decide +kernel
theorem dX7_finds_31 : decode cX7_finds 31 = .ok (.iload 4, 2) := by decide +kernel
theorem dX7_finds_33 : decode cX7_finds 33 = .ok (.iload_n 2, 1) := by decide +kernel
theorem dX7_finds_34 : decode cX7_finds 34 = .ok (.ifCond .ne 7, 3) := by decide +kernel
theorem dX7_finds_37 : decode cX7_finds 37 = .ok (.iconst 0, 1) := by decide +kernel
theorem dX7_finds_38 : decode cX7_finds 38 = .ok (.goto 15, 3) := by decide +kernel
theorem dX7_finds_41 : decode cX7_finds 41 = .ok (.bipush 100, 2) := by decide +kernel
theorem dX7_finds_43 : decode cX7_finds 43 = .ok (.aload_n 0, 1) := by decide +kernel
theorem dX7_finds_44 : decode cX7_finds 44 = .ok (.getfield 23, 3) := by decide +kernel
theorem dX7_finds_47 : decode cX7_finds 47 = .ok (.iload 4, 2) := by decide +kernel
theorem dX7_finds_49 : decode cX7_finds 49 = .ok (.iaload, 1) := by decide +kernel
theorem dX7_finds_50 : decode cX7_finds 50 = .ok (.imul, 1) := by decide +kernel
theorem dX7_finds_51 : decode cX7_finds 51 = .ok (.iload_n 2, 1) := by decide +kernel
theorem dX7_finds_52 : decode cX7_finds 52 = .ok (.idiv, 1) := by decide +kernel
theorem dX7_finds_53 : decode cX7_finds 53 = .ok (.iastore, 1) := by decide +kernel
theorem dX7_finds_54 : decode cX7_finds 54 = .ok (.iload_n 3, 1) := by decide +kernel
theorem dX7_finds_55 : decode cX7_finds 55 = .ok (.aload_n 0, 1) := by decide +kernel
theorem dX7_finds_56 : decode cX7_finds 56 = .ok (.getfield 26, 3) := by decide +kernel
theorem dX7_finds_59 : decode cX7_finds 59 = .ok (.iload 4, 2) := by decide +kernel
theorem dX7_finds_61 : decode cX7_finds 61 = .ok (.iaload, 1) := by decide +kernel
theorem dX7_finds_62 : decode cX7_finds 62 = .ok (.isub, 1) := by decide +kernel
theorem dX7_finds_63 : decode cX7_finds 63 = .ok (.istore_n 3, 1) := by decide +kernel
theorem dX7_finds_64 : decode cX7_finds 64 = .ok (.iinc 4 1, 3) := by decide +kernel
theorem dX7_finds_67 : decode cX7_finds 67 = .ok (.goto (-47), 3) := by decide +kernel
theorem dX7_finds_70 : decode cX7_finds 70 = .ok (.iconst 0, 1) := by decide +kernel
theorem dX7_finds_71 : decode cX7_finds 71 = .ok (.istore 4, 2) := by decide +kernel
theorem dX7_finds_73 : decode cX7_finds 73 = .ok (.iload 4, 2) := by decide +kernel
theorem dX7_finds_75 : decode cX7_finds 75 = .ok (.bipush 48, 2) := by decide +kernel
theorem dX7_finds_77 : decode cX7_finds 77 = .ok (.if_icmp .ge 39, 3) := by decide +kernel
theorem dX7_finds_80 : decode cX7_finds 80 = .ok (.iload_n 2, 1) := by decide +kernel
theorem dX7_finds_81 : decode cX7_finds 81 = .ok (.ifCond .le 35, 3) := by decide +kernel
theorem dX7_finds_84 : decode cX7_finds 84 = .ok (.aload_n 0, 1) := by decide +kernel
theorem dX7_finds_85 : decode cX7_finds 85 = .ok (.getfield 26, 3) := by decide +kernel
theorem dX7_finds_88 : decode cX7_finds 88 = .ok (.iload 4, 2) := by decide +kernel
theorem dX7_finds_90 : decode cX7_finds 90 = .ok (.dup2, 1) := by decide +kernel
theorem dX7_finds_91 : decode cX7_finds 91 = .ok (.iaload, 1) := by decide +kernel
theorem dX7_finds_92 : decode cX7_finds 92 = .ok (.aload_n 0, 1) := by decide +kernel
theorem dX7_finds_93 : decode cX7_finds 93 = .ok (.iload 4, 2) := by decide +kernel
theorem dX7_finds_95 : decode cX7_finds 95 = .ok (.iload_n 2, 1) := by decide +kernel
theorem dX7_finds_96 : decode cX7_finds 96 = .ok (.invokevirtual 74, 3) := by decide +kernel
theorem dX7_finds_99 : decode cX7_finds 99 = .ok (.iload_n 3, 1) := by decide +kernel
theorem dX7_finds_100 : decode cX7_finds 100 = .ok (.if_icmp .ge 7, 3) := by decide +kernel
theorem dX7_finds_103 : decode cX7_finds 103 = .ok (.iconst 1, 1) := by decide +kernel
theorem dX7_finds_104 : decode cX7_finds 104 = .ok (.goto 4, 3) := by decide +kernel
theorem dX7_finds_107 : decode cX7_finds 107 = .ok (.iconst 0, 1) := by decide +kernel
theorem dX7_finds_108 : decode cX7_finds 108 = .ok (.iadd, 1) := by decide +kernel
theorem dX7_finds_109 : decode cX7_finds 109 = .ok (.iastore, 1) := by decide +kernel
theorem dX7_finds_110 : decode cX7_finds 110 = .ok (.iinc 4 1, 3) := by decide +kernel
theorem dX7_finds_113 : decode cX7_finds 113 = .ok (.goto (-40), 3) := by decide +kernel
theorem dX7_finds_116 : decode cX7_finds 116 = .ok (.return_, 1) := by decide +kernel
set_option maxRecDepth 20000 in
theorem ggX7_deals_X7_looks : GoodIn wsX7_deals wsX7_looks := goodIn_r _ [8, 2, 9, 10, 11, 7, 12, 13, 14, 15, 16, 17, 18, 19, 20, 21, 22, 23, 24, 25, 26, 27, 28, 29, 30, 31, 32] (by decide +kernel) (by decide +kernel)
set_option maxRecDepth 20000 in
theorem gX7_deals_X7_looks : GoodIn wsX7_deals (wsV RX7 65 RX7 yX7_looks wsX7_looks) := goodIn_app (goodIn_of _ (by decide +kernel)) ggX7_deals_X7_looks
theorem dX7_deals_0 : decode cX7_deals 0 = .ok (.aload_n 0, 1) := by decide +kernel
theorem dX7_deals_1 : decode cX7_deals 1 = .ok (.iload_n 1, 1) := by decide +kernel
theorem dX7_deals_2 : decode cX7_deals 2 = .ok (.invokevirtual 65, 3) := by decide +kernel
theorem dX7_deals_5 : decode cX7_deals 5 = .ok (.istore_n 2, 1) := by decide +kernel
theorem dX7_deals_6 : decode cX7_deals 6 = .ok (.iload_n 2, 1) := by decide +kernel
theorem dX7_deals_7 : decode cX7_deals 7 = .ok (.ifCond .ne 7, 3) := by decide +kernel
theorem dX7_deals_10 : decode cX7_deals 10 = .ok (.iconst 0, 1) := by decide +kernel
theorem dX7_deals_11 : decode cX7_deals 11 = .ok (.goto 5, 3) := by decide +kernel
theorem dX7_deals_14 : decode cX7_deals 14 = .ok (.bipush 100, 2) := by decide +kernel
theorem dX7_deals_16 : decode cX7_deals 16 = .ok (.istore_n 3, 1) := by decide +kernel
theorem dX7_deals_17 : decode cX7_deals 17 = .ok (.iconst 0, 1) := by decide +kernel
theorem dX7_deals_18 : decode cX7_deals 18 = .ok (.istore 4, 2) := by decide +kernel
theorem dX7_deals_20 : decode cX7_deals 20 = .ok (.iload 4, 2) := by decide +kernel
theorem dX7_deals_22 : decode cX7_deals 22 = .ok (.bipush 48, 2) := by decide +kernel
theorem dX7_deals_24 : decode cX7_deals 24 = .ok (.if_icmp .ge 73, 3) := by decide +kernel
theorem dX7_deals_27 : decode cX7_deals 27 = .ok (.aload_n 0, 1) := by decide +kernel
theorem dX7_deals_28 : decode cX7_deals 28 = .ok (.getfield 26, 3) := by decide +kernel
theorem dX7_deals_31 : decode cX7_deals 31 = .ok (.iload 4, 2) := by decide +kernel
theorem dX7_deals_33 : decode cX7_deals 33 = .ok (.iload_n 2, 1) := by decide +kernel
theorem dX7_deals_34 : decode cX7_deals 34 = .ok (.ifCond .ne 7, 3) := by decide +kernel
theorem dX7_deals_37 : decode cX7_deals 37 = .ok (.iconst 0, 1) := by decide +kernel
theorem dX7_deals_38 : decode cX7_deals 38 = .ok (.goto 15, 3) := by decide +kernel
theorem dX7_deals_41 : decode cX7_deals 41 = .ok (.bipush 100, 2) := by decide +kernel
theorem dX7_deals_43 : decode cX7_deals 43 = .ok (.aload_n 0, 1) := by decide +kernel
theorem dX7_deals_44 : decode cX7_deals 44 = .ok (.getfield 23, 3) := by decide +kernel
theorem dX7_deals_47 : decode cX7_deals 47 = .ok (.iload 4, 2) := by decide +kernel
theorem dX7_deals_49 : decode cX7_deals 49 = .ok (.iaload, 1) := by decide +kernel
theorem dX7_deals_50 : decode cX7_deals 50 = .ok (.imul, 1) := by decide +kernel
theorem dX7_deals_51 : decode cX7_deals 51 = .ok (.iload_n 2, 1) := by decide +kernel
theorem dX7_deals_52 : decode cX7_deals 52 = .ok (.idiv, 1) := by decide +kernel
theorem dX7_deals_53 : decode cX7_deals 53 = .ok (.iastore, 1) := by decide +kernel
theorem dX7_deals_54 : decode cX7_deals 54 = .ok (.aload_n 0, 1) := by decide +kernel
theorem dX7_deals_55 : decode cX7_deals 55 = .ok (.getfield 29, 3) := by decide +kernel
theorem dX7_deals_58 : decode cX7_deals 58 = .ok (.iload 4, 2) := by decide +kernel
theorem dX7_deals_60 : decode cX7_deals 60 = .ok (.iload_n 2, 1) := by decide +kernel
theorem dX7_deals_61 : decode cX7_deals 61 = .ok (.ifCond .ne 7, 3) := by decide +kernel
theorem dX7_deals_64 : decode cX7_deals 64 = .ok (.iconst 0, 1) := by decide +kernel
theorem dX7_deals_65 : decode cX7_deals 65 = .ok (.goto 15, 3) := by decide +kernel
theorem dX7_deals_68 : decode cX7_deals 68 = .ok (.bipush 100, 2) := by decide +kernel
theorem dX7_deals_70 : decode cX7_deals 70 = .ok (.aload_n 0, 1) := by decide +kernel
theorem dX7_deals_71 : decode cX7_deals 71 = .ok (.getfield 23, 3) := by decide +kernel
theorem dX7_deals_74 : decode cX7_deals 74 = .ok (.iload 4, 2) := by decide +kernel
theorem dX7_deals_76 : decode cX7_deals 76 = .ok (.iaload, 1) := by decide +kernel
theorem dX7_deals_77 : decode cX7_deals 77 = .ok (.imul, 1) := by decide +kernel
theorem dX7_deals_78 : decode cX7_deals 78 = .ok (.iload_n 2, 1) := by decide +kernel
theorem dX7_deals_79 : decode cX7_deals 79 = .ok (.irem, 1) := by decide +kernel
theorem dX7_deals_80 : decode cX7_deals 80 = .ok (.iastore, 1) := by decide +kernel
theorem dX7_deals_81 : decode cX7_deals 81 = .ok (.iload_n 3, 1) := by decide +kernel
theorem dX7_deals_82 : decode cX7_deals 82 = .ok (.aload_n 0, 1) := by decide +kernel
theorem dX7_deals_83 : decode cX7_deals 83 = .ok (.getfield 26, 3) := by decide +kernel
theorem dX7_deals_86 : decode cX7_deals 86 = .ok (.iload 4, 2) := by decide +kernel
theorem dX7_deals_88 : decode cX7_deals 88 = .ok (.iaload, 1) := by decide +kernel
theorem dX7_deals_89 : decode cX7_deals 89 = .ok (.isub, 1) := by decide +kernel
theorem dX7_deals_90 : decode cX7_deals 90 = .ok (.istore_n 3, 1) := by decide +kernel
theorem dX7_deals_91 : decode cX7_deals 91 = .ok (.iinc 4 1, 3) := by decide +kernel
theorem dX7_deals_94 : decode cX7_deals 94 = .ok (.goto (-74), 3) := by decide +kernel
theorem dX7_deals_97 : decode cX7_deals 97 = .ok (.iconst 0, 1) := by decide +kernel
theorem dX7_deals_98 : decode cX7_deals 98 = .ok (.istore 4, 2) := by decide +kernel
theorem dX7_deals_100 : decode cX7_deals 100 = .ok (.iload 4, 2) := by decide +kernel
theorem dX7_deals_102 : decode cX7_deals 102 = .ok (.iload_n 3, 1) := by decide +kernel
theorem dX7_deals_103 : decode cX7_deals 103 = .ok (.if_icmp .ge 73, 3) := by decide +kernel
theorem dX7_deals_106 : decode cX7_deals 106 = .ok (.iconst 0, 1) := by decide +kernel
theorem dX7_deals_107 : decode cX7_deals 107 = .ok (.istore 5, 2) := by decide +kernel
theorem dX7_deals_109 : decode cX7_deals 109 = .ok (.iconst 1, 1) := by decide +kernel
theorem dX7_deals_110 : decode cX7_deals 110 = .ok (.istore 6, 2) := by decide +kernel
theorem dX7_deals_112 : decode cX7_deals 112 = .ok (.iload 6, 2) := by decide +kernel
theorem dX7_deals_114 : decode cX7_deals 114 = .ok (.bipush 48, 2) := by decide +kernel
theorem dX7_deals_116 : decode cX7_deals 116 = .ok (.if_icmp .ge 35, 3) := by decide +kernel
theorem dX7_deals_119 : decode cX7_deals 119 = .ok (.aload_n 0, 1) := by decide +kernel
theorem dX7_deals_120 : decode cX7_deals 120 = .ok (.getfield 29, 3) := by decide +kernel
theorem dX7_deals_123 : decode cX7_deals 123 = .ok (.iload 6, 2) := by decide +kernel
theorem dX7_deals_125 : decode cX7_deals 125 = .ok (.iaload, 1) := by decide +kernel
theorem dX7_deals_126 : decode cX7_deals 126 = .ok (.aload_n 0, 1) := by decide +kernel
theorem dX7_deals_127 : decode cX7_deals 127 = .ok (.getfield 29, 3) := by decide +kernel
theorem dX7_deals_130 : decode cX7_deals 130 = .ok (.iload 5, 2) := by decide +kernel
theorem dX7_deals_132 : decode cX7_deals 132 = .ok (.iaload, 1) := by decide +kernel
theorem dX7_deals_133 : decode cX7_deals 133 = .ok (.if_icmp .le 8, 3) := by decide +kernel
theorem dX7_deals_136 : decode cX7_deals 136 = .ok (.iload 6, 2) := by decide +kernel
theorem dX7_deals_138 : decode cX7_deals 138 = .ok (.goto 5, 3) := by decide +kernel
theorem dX7_deals_141 : decode cX7_deals 141 = .ok (.iload 5, 2) := by decide +kernel
theorem dX7_deals_143 : decode cX7_deals 143 = .ok (.istore 5, 2) := by decide +kernel
theorem dX7_deals_145 : decode cX7_deals 145 = .ok (.iinc 6 1, 3) := by decide +kernel
theorem dX7_deals_148 : decode cX7_deals 148 = .ok (.goto (-36), 3) := by decide +kernel
theorem dX7_deals_151 : decode cX7_deals 151 = .ok (.aload_n 0, 1) := by decide +kernel
theorem dX7_deals_152 : decode cX7_deals 152 = .ok (.getfield 26, 3) := by decide +kernel
theorem dX7_deals_155 : decode cX7_deals 155 = .ok (.iload 5, 2) := by decide +kernel
theorem dX7_deals_157 : decode cX7_deals 157 = .ok (.dup2, 1) := by decide +kernel
theorem dX7_deals_158 : decode cX7_deals 158 = .ok (.iaload, 1) := by decide +kernel
theorem dX7_deals_159 : decode cX7_deals 159 = .ok (.iconst 1, 1) := by decide +kernel
theorem dX7_deals_160 : decode cX7_deals 160 = .ok (.iadd, 1) := by decide +kernel
theorem dX7_deals_161 : decode cX7_deals 161 = .ok (.iastore, 1) := by decide +kernel
theorem dX7_deals_162 : decode cX7_deals 162 = .ok (.aload_n 0, 1) := by decide +kernel
theorem dX7_deals_163 : decode cX7_deals 163 = .ok (.getfield 29, 3) := by decide +kernel
theorem dX7_deals_166 : decode cX7_deals 166 = .ok (.iload 5, 2) := by decide +kernel
theorem dX7_deals_168 : decode cX7_deals 168 = .ok (.iconst (-1), 1) := by decide +kernel
theorem dX7_deals_169 : decode cX7_deals 169 = .ok (.iastore, 1) := by decide +kernel
theorem dX7_deals_170 : decode cX7_deals 170 = .ok (.iinc 4 1, 3) := by decide +kernel
theorem dX7_deals_173 : decode cX7_deals 173 = .ok (.goto (-73), 3) := by decide +kernel
theorem dX7_deals_176 : decode cX7_deals 176 = .ok (.return_, 1) := by decide +kernel
set_option maxRecDepth 20000 in
theorem ggX7_roseOf_X7_isFour : GoodIn wsX7_roseOf wsX7_isFour := goodIn_r _ [4, 5, 6, 3, 7] (by decide +kernel) (by decide +kernel)
set_option maxRecDepth 20000 in
theorem gX7_roseOf_X7_isFour : GoodIn wsX7_roseOf (va_wsS RX7 78 yX7_isFour wsX7_isFour) := goodIn_app (goodIn_of _ (by decide +kernel)) ggX7_roseOf_X7_isFour
theorem dX7_roseOf_0 : decode cX7_roseOf 0 = .ok (.iload_n 0, 1) := by decide +kernel
theorem dX7_roseOf_1 : decode cX7_roseOf 1 = .ok (.invokestatic 78, 3) := by decide +kernel
theorem dX7_roseOf_4 : decode cX7_roseOf 4 = .ok (.ifCond .eq 18, 3) := by decide +kernel
theorem dX7_roseOf_7 : decode cX7_roseOf 7 = .ok (.iload_n 1, 1) := by decide +kernel
theorem dX7_roseOf_8 : decode cX7_roseOf 8 = .ok (.invokestatic 78, 3) := by decide +kernel
theorem dX7_roseOf_11 : decode cX7_roseOf 11 = .ok (.ifCond .eq 11, 3) := by decide +kernel
theorem dX7_roseOf_14 : decode cX7_roseOf 14 = .ok (.iconst 4, 1) := by decide +kernel
theorem dX7_roseOf_15 : decode cX7_roseOf 15 = .ok (.iload_n 0, 1) := by decide +kernel
theorem dX7_roseOf_16 : decode cX7_roseOf 16 = .ok (.imul, 1) := by decide +kernel
theorem dX7_roseOf_17 : decode cX7_roseOf 17 = .ok (.iload_n 1, 1) := by decide +kernel
theorem dX7_roseOf_18 : decode cX7_roseOf 18 = .ok (.iadd, 1) := by decide +kernel
theorem dX7_roseOf_19 : decode cX7_roseOf 19 = .ok (.goto 4, 3) := by decide +kernel
theorem dX7_roseOf_22 : decode cX7_roseOf 22 = .ok (.iconst (-1), 1) := by decide +kernel
theorem dX7_roseOf_23 : decode cX7_roseOf 23 = .ok (.ireturn, 1) := by decide +kernel
set_option maxRecDepth 20000 in
theorem ggX7_log_X7_isDirection : GoodIn wsX7_log wsX7_isDirection := goodIn_r _ [4, 5, 6, 3, 7] (by decide +kernel) (by decide +kernel)
set_option maxRecDepth 20000 in
theorem gX7_log_X7_isDirection : GoodIn wsX7_log (va_wsS RX7 82 yX7_isDirection wsX7_isDirection) := goodIn_app (goodIn_of _ (by decide +kernel)) ggX7_log_X7_isDirection
set_option maxRecDepth 20000 in
theorem ggX7_log_X7_roseOf : GoodIn wsX7_log wsX7_roseOf := goodIn_r _ [10, 11, 12, 3, 13, 5, 6, 7] (by decide +kernel) (by decide +kernel)
set_option maxRecDepth 20000 in
theorem gX7_log_X7_roseOf : GoodIn wsX7_log (va_wsS RX7 85 yX7_roseOf wsX7_roseOf) := goodIn_app (goodIn_of _ (by decide +kernel)) ggX7_log_X7_roseOf
set_option maxRecDepth 20000 in
theorem ggX7_log_X7_in : GoodIn wsX7_log wsX7_in := goodIn_r _ [7] (by decide +kernel) (by decide +kernel)
set_option maxRecDepth 20000 in
theorem gX7_log_X7_in : GoodIn wsX7_log (va_wsS RX7 41 yX7_in wsX7_in) := goodIn_app (goodIn_of _ (by decide +kernel)) ggX7_log_X7_in
set_option maxRecDepth 20000 in
theorem ggX7_log_X7_hoursOf : GoodIn wsX7_log wsX7_hoursOf := goodIn_r _ [17, 18, 19, 20, 3, 21, 22, 23, 24, 25, 26, 27, 28, 29, 30, 31, 32, 33, 34, 35, 36, 37, 38, 39, 40, 41, 42, 43, 54, 55, 56, 57, 58, 59, 60, 61, 62, 63, 64] (by decide +kernel) (by decide +kernel)
set_option maxRecDepth 20000 in
theorem gX7_log_X7_hoursOf : GoodIn wsX7_log (wsV RX7 71 RX7 yX7_hoursOf wsX7_hoursOf) := goodIn_app (goodIn_of _ (by decide +kernel)) ggX7_log_X7_hoursOf
set_option maxRecDepth 20000 in
theorem ggX7_log_X7_remembers : GoodIn wsX7_log wsX7_remembers := goodIn_r _ [47, 48, 49, 27, 54, 55, 56, 57, 58, 59, 60, 61, 62, 63, 64] (by decide +kernel) (by decide +kernel)
set_option maxRecDepth 20000 in
theorem gX7_log_X7_remembers : GoodIn wsX7_log (wsV RX7 88 RX7 yX7_remembers wsX7_remembers) := goodIn_app (goodIn_of _ (by decide +kernel)) ggX7_log_X7_remembers
set_option maxRecDepth 20000 in
theorem ggX7_log_X7_at : GoodIn wsX7_log wsX7_at := goodIn_r _ [26, 27, 28, 29, 30, 3, 31, 54, 55, 56, 57, 58, 59, 60, 61, 62, 63, 64] (by decide +kernel) (by decide +kernel)
set_option maxRecDepth 20000 in
theorem gX7_log_X7_at : GoodIn wsX7_log (wsV RX7 55 RX7 yX7_at wsX7_at) := goodIn_app (goodIn_of _ (by decide +kernel)) ggX7_log_X7_at
set_option maxRecDepth 20000 in
theorem ggX7_log_X7_puts : GoodIn wsX7_log wsX7_puts := goodIn_r _ [53, 27, 29, 30, 3, 31, 23, 24, 25, 26, 28, 54, 55, 56, 57, 58, 59, 60, 61, 62, 63, 64] (by decide +kernel) (by decide +kernel)
set_option maxRecDepth 20000 in
theorem gX7_log_X7_puts : GoodIn wsX7_log (wsV RX7 91 RX7 yX7_puts wsX7_puts) := goodIn_app (goodIn_of _ (by decide +kernel)) ggX7_log_X7_puts
theorem dX7_log_0 : decode cX7_log 0 = .ok (.iload_n 3, 1) := by decide +kernel
theorem dX7_log_1 : decode cX7_log 1 = .ok (.invokestatic 82, 3) := by decide +kernel
theorem dX7_log_4 : decode cX7_log 4 = .ok (.ifCond .eq 11, 3) := by decide +kernel
theorem dX7_log_7 : decode cX7_log 7 = .ok (.iload_n 1, 1) := by decide +kernel
theorem dX7_log_8 : decode cX7_log 8 = .ok (.iload_n 2, 1) := by decide +kernel
theorem dX7_log_9 : decode cX7_log 9 = .ok (.invokestatic 85, 3) := by decide +kernel
theorem dX7_log_12 : decode cX7_log 12 = .ok (.goto 4, 3) := by decide +kernel
theorem dX7_log_15 : decode cX7_log 15 = .ok (.iconst (-1), 1) := by decide +kernel
theorem dX7_log_16 : decode cX7_log 16 = .ok (.istore 6, 2) := by decide +kernel
theorem dX7_log_18 : decode cX7_log 18 = .ok (.iload 6, 2) := by decide +kernel
theorem dX7_log_20 : decode cX7_log 20 = .ok (.ifCond .ge 5, 3) := by decide +kernel
theorem dX7_log_23 : decode cX7_log 23 = .ok (.iconst (-1), 1) := by decide +kernel
theorem dX7_log_24 : decode cX7_log 24 = .ok (.ireturn, 1) := by decide +kernel
theorem dX7_log_25 : decode cX7_log 25 = .ok (.iload 4, 2) := by decide +kernel
theorem dX7_log_27 : decode cX7_log 27 = .ok (.iconst 1, 1) := by decide +kernel
theorem dX7_log_28 : decode cX7_log 28 = .ok (.bipush 99, 2) := by decide +kernel
theorem dX7_log_30 : decode cX7_log 30 = .ok (.invokestatic 41, 3) := by decide +kernel
theorem dX7_log_33 : decode cX7_log 33 = .ok (.ifCond .eq 14, 3) := by decide +kernel
theorem dX7_log_36 : decode cX7_log 36 = .ok (.iload 5, 2) := by decide +kernel
theorem dX7_log_38 : decode cX7_log 38 = .ok (.iconst 1, 1) := by decide +kernel
theorem dX7_log_39 : decode cX7_log 39 = .ok (.bipush 99, 2) := by decide +kernel
theorem dX7_log_41 : decode cX7_log 41 = .ok (.invokestatic 41, 3) := by decide +kernel
theorem dX7_log_44 : decode cX7_log 44 = .ok (.ifCond .ne 6, 3) := by decide +kernel
theorem dX7_log_47 : decode cX7_log 47 = .ok (.bipush (-2), 2) := by decide +kernel
theorem dX7_log_49 : decode cX7_log 49 = .ok (.ireturn, 1) := by decide +kernel
theorem dX7_log_50 : decode cX7_log 50 = .ok (.aload_n 0, 1) := by decide +kernel
theorem dX7_log_51 : decode cX7_log 51 = .ok (.iload 6, 2) := by decide +kernel
theorem dX7_log_53 : decode cX7_log 53 = .ok (.invokevirtual 71, 3) := by decide +kernel
theorem dX7_log_56 : decode cX7_log 56 = .ok (.iload 5, 2) := by decide +kernel
theorem dX7_log_58 : decode cX7_log 58 = .ok (.iadd, 1) := by decide +kernel
theorem dX7_log_59 : decode cX7_log 59 = .ok (.sipush 9999, 3) := by decide +kernel
theorem dX7_log_62 : decode cX7_log 62 = .ok (.if_icmp .le 6, 3) := by decide +kernel
theorem dX7_log_65 : decode cX7_log 65 = .ok (.bipush (-3), 2) := by decide +kernel
theorem dX7_log_67 : decode cX7_log 67 = .ok (.ireturn, 1) := by decide +kernel
theorem dX7_log_68 : decode cX7_log 68 = .ok (.aload_n 0, 1) := by decide +kernel
theorem dX7_log_69 : decode cX7_log 69 = .ok (.invokevirtual 88, 3) := by decide +kernel
theorem dX7_log_72 : decode cX7_log 72 = .ok (.aload_n 0, 1) := by decide +kernel
theorem dX7_log_73 : decode cX7_log 73 = .ok (.iload 6, 2) := by decide +kernel
theorem dX7_log_75 : decode cX7_log 75 = .ok (.iload_n 3, 1) := by decide +kernel
theorem dX7_log_76 : decode cX7_log 76 = .ok (.iload 4, 2) := by decide +kernel
theorem dX7_log_78 : decode cX7_log 78 = .ok (.aload_n 0, 1) := by decide +kernel
theorem dX7_log_79 : decode cX7_log 79 = .ok (.iload 6, 2) := by decide +kernel
theorem dX7_log_81 : decode cX7_log 81 = .ok (.iload_n 3, 1) := by decide +kernel
theorem dX7_log_82 : decode cX7_log 82 = .ok (.iload 4, 2) := by decide +kernel
theorem dX7_log_84 : decode cX7_log 84 = .ok (.invokevirtual 55, 3) := by decide +kernel
theorem dX7_log_87 : decode cX7_log 87 = .ok (.iload 5, 2) := by decide +kernel
theorem dX7_log_89 : decode cX7_log 89 = .ok (.iadd, 1) := by decide +kernel
theorem dX7_log_90 : decode cX7_log 90 = .ok (.invokevirtual 91, 3) := by decide +kernel
theorem dX7_log_93 : decode cX7_log 93 = .ok (.aload_n 0, 1) := by decide +kernel
theorem dX7_log_94 : decode cX7_log 94 = .ok (.iload 6, 2) := by decide +kernel
theorem dX7_log_96 : decode cX7_log 96 = .ok (.invokevirtual 71, 3) := by decide +kernel
theorem dX7_log_99 : decode cX7_log 99 = .ok (.ireturn, 1) := by decide +kernel
set_option maxRecDepth 20000 in
theorem ggX7_calm_X7_roseOf : GoodIn wsX7_calm wsX7_roseOf := goodIn_r _ [5, 6, 7, 4, 8, 9, 10, 11] (by decide +kernel) (by decide +kernel)
set_option maxRecDepth 20000 in
theorem gX7_calm_X7_roseOf : GoodIn wsX7_calm (va_wsS RX7 85 yX7_roseOf wsX7_roseOf) := goodIn_app (goodIn_of _ (by decide +kernel)) ggX7_calm_X7_roseOf
set_option maxRecDepth 20000 in
theorem ggX7_calm_X7_in : GoodIn wsX7_calm wsX7_in := goodIn_r _ [11] (by decide +kernel) (by decide +kernel)
set_option maxRecDepth 20000 in
theorem gX7_calm_X7_in : GoodIn wsX7_calm (va_wsS RX7 41 yX7_in wsX7_in) := goodIn_app (goodIn_of _ (by decide +kernel)) ggX7_calm_X7_in
set_option maxRecDepth 20000 in
theorem ggX7_calm_X7_hoursOf : GoodIn wsX7_calm wsX7_hoursOf := goodIn_r _ [15, 16, 17, 18, 4, 19, 20, 21, 22, 23, 24, 1, 25, 26, 27, 28, 29, 30, 31, 32, 33, 34, 35, 36, 37, 38, 39, 40, 47, 48, 49, 50, 51, 52, 53, 54, 55, 56, 57] (by decide +kernel) (by decide +kernel)
set_option maxRecDepth 20000 in
theorem gX7_calm_X7_hoursOf : GoodIn wsX7_calm (wsV RX7 71 RX7 yX7_hoursOf wsX7_hoursOf) := goodIn_app (goodIn_of _ (by decide +kernel)) ggX7_calm_X7_hoursOf
set_option maxRecDepth 20000 in
theorem ggX7_calm_X7_remembers : GoodIn wsX7_calm wsX7_remembers := goodIn_r _ [44, 45, 46, 1, 47, 48, 49, 50, 51, 52, 53, 54, 55, 56, 57] (by decide +kernel) (by decide +kernel)
set_option maxRecDepth 20000 in
theorem gX7_calm_X7_remembers : GoodIn wsX7_calm (wsV RX7 88 RX7 yX7_remembers wsX7_remembers) := goodIn_app (goodIn_of _ (by decide +kernel)) ggX7_calm_X7_remembers
theorem dX7_calm_0 : decode cX7_calm 0 = .ok (.iload_n 1, 1) := by decide +kernel
theorem dX7_calm_1 : decode cX7_calm 1 = .ok (.iload_n 2, 1) := by decide +kernel
theorem dX7_calm_2 : decode cX7_calm 2 = .ok (.invokestatic 85, 3) := by decide +kernel
theorem dX7_calm_5 : decode cX7_calm 5 = .ok (.istore 4, 2) := by decide +kernel
theorem dX7_calm_7 : decode cX7_calm 7 = .ok (.iload 4, 2) := by decide +kernel
theorem dX7_calm_9 : decode cX7_calm 9 = .ok (.ifCond .ge 5, 3) := by decide +kernel
theorem dX7_calm_12 : decode cX7_calm 12 = .ok (.iconst (-1), 1) := by decide +kernel
theorem dX7_calm_13 : decode cX7_calm 13 = .ok (.ireturn, 1) := by decide +kernel
theorem dX7_calm_14 : decode cX7_calm 14 = .ok (.iload_n 3, 1) := by decide +kernel
theorem dX7_calm_15 : decode cX7_calm 15 = .ok (.iconst 1, 1) := by decide +kernel
theorem dX7_calm_16 : decode cX7_calm 16 = .ok (.bipush 99, 2) := by decide +kernel
theorem dX7_calm_18 : decode cX7_calm 18 = .ok (.invokestatic 41, 3) := by decide +kernel
theorem dX7_calm_21 : decode cX7_calm 21 = .ok (.ifCond .ne 6, 3) := by decide +kernel
theorem dX7_calm_24 : decode cX7_calm 24 = .ok (.bipush (-2), 2) := by decide +kernel
theorem dX7_calm_26 : decode cX7_calm 26 = .ok (.ireturn, 1) := by decide +kernel
theorem dX7_calm_27 : decode cX7_calm 27 = .ok (.aload_n 0, 1) := by decide +kernel
theorem dX7_calm_28 : decode cX7_calm 28 = .ok (.iload 4, 2) := by decide +kernel
theorem dX7_calm_30 : decode cX7_calm 30 = .ok (.invokevirtual 71, 3) := by decide +kernel
theorem dX7_calm_33 : decode cX7_calm 33 = .ok (.iload_n 3, 1) := by decide +kernel
theorem dX7_calm_34 : decode cX7_calm 34 = .ok (.iadd, 1) := by decide +kernel
theorem dX7_calm_35 : decode cX7_calm 35 = .ok (.sipush 9999, 3) := by decide +kernel
theorem dX7_calm_38 : decode cX7_calm 38 = .ok (.if_icmp .le 6, 3) := by decide +kernel
theorem dX7_calm_41 : decode cX7_calm 41 = .ok (.bipush (-3), 2) := by decide +kernel
theorem dX7_calm_43 : decode cX7_calm 43 = .ok (.ireturn, 1) := by decide +kernel
theorem dX7_calm_44 : decode cX7_calm 44 = .ok (.aload_n 0, 1) := by decide +kernel
theorem dX7_calm_45 : decode cX7_calm 45 = .ok (.invokevirtual 88, 3) := by decide +kernel
theorem dX7_calm_48 : decode cX7_calm 48 = .ok (.aload_n 0, 1) := by decide +kernel
theorem dX7_calm_49 : decode cX7_calm 49 = .ok (.getfield 7, 3) := by decide +kernel
theorem dX7_calm_52 : decode cX7_calm 52 = .ok (.sipush 6336, 3) := by decide +kernel
theorem dX7_calm_55 : decode cX7_calm 55 = .ok (.iload 4, 2) := by decide +kernel
theorem dX7_calm_57 : decode cX7_calm 57 = .ok (.iadd, 1) := by decide +kernel
theorem dX7_calm_58 : decode cX7_calm 58 = .ok (.dup2, 1) := by decide +kernel
theorem dX7_calm_59 : decode cX7_calm 59 = .ok (.laload, 1) := by decide +kernel
theorem dX7_calm_60 : decode cX7_calm 60 = .ok (.iload_n 3, 1) := by decide +kernel
theorem dX7_calm_61 : decode cX7_calm 61 = .ok (.i2l, 1) := by decide +kernel
theorem dX7_calm_62 : decode cX7_calm 62 = .ok (.ladd, 1) := by decide +kernel
theorem dX7_calm_63 : decode cX7_calm 63 = .ok (.lastore, 1) := by decide +kernel
theorem dX7_calm_64 : decode cX7_calm 64 = .ok (.aload_n 0, 1) := by decide +kernel
theorem dX7_calm_65 : decode cX7_calm 65 = .ok (.iload 4, 2) := by decide +kernel
theorem dX7_calm_67 : decode cX7_calm 67 = .ok (.invokevirtual 71, 3) := by decide +kernel
theorem dX7_calm_70 : decode cX7_calm 70 = .ok (.ireturn, 1) := by decide +kernel
set_option maxRecDepth 20000 in
theorem ggX7_strike_X7_isDirection : GoodIn wsX7_strike wsX7_isDirection := goodIn_r _ [4, 5, 6, 3, 7] (by decide +kernel) (by decide +kernel)
set_option maxRecDepth 20000 in
theorem gX7_strike_X7_isDirection : GoodIn wsX7_strike (va_wsS RX7 82 yX7_isDirection wsX7_isDirection) := goodIn_app (goodIn_of _ (by decide +kernel)) ggX7_strike_X7_isDirection
set_option maxRecDepth 20000 in
theorem ggX7_strike_X7_roseOf : GoodIn wsX7_strike wsX7_roseOf := goodIn_r _ [10, 11, 12, 3, 13, 5, 6, 7] (by decide +kernel) (by decide +kernel)
set_option maxRecDepth 20000 in
theorem gX7_strike_X7_roseOf : GoodIn wsX7_strike (va_wsS RX7 85 yX7_roseOf wsX7_roseOf) := goodIn_app (goodIn_of _ (by decide +kernel)) ggX7_strike_X7_roseOf
set_option maxRecDepth 20000 in
theorem ggX7_strike_X7_in : GoodIn wsX7_strike wsX7_in := goodIn_r _ [7] (by decide +kernel) (by decide +kernel)
set_option maxRecDepth 20000 in
theorem gX7_strike_X7_in : GoodIn wsX7_strike (va_wsS RX7 41 yX7_in wsX7_in) := goodIn_app (goodIn_of _ (by decide +kernel)) ggX7_strike_X7_in
set_option maxRecDepth 20000 in
theorem ggX7_strike_X7_at : GoodIn wsX7_strike wsX7_at := goodIn_r _ [17, 18, 19, 20, 21, 3, 22, 33, 34, 35, 36, 37, 38, 39, 40, 41, 42, 43] (by decide +kernel) (by decide +kernel)
set_option maxRecDepth 20000 in
theorem gX7_strike_X7_at : GoodIn wsX7_strike (wsV RX7 55 RX7 yX7_at wsX7_at) := goodIn_app (goodIn_of _ (by decide +kernel)) ggX7_strike_X7_at
set_option maxRecDepth 20000 in
theorem ggX7_strike_X7_remembers : GoodIn wsX7_strike wsX7_remembers := goodIn_r _ [26, 27, 28, 18, 33, 34, 35, 36, 37, 38, 39, 40, 41, 42, 43] (by decide +kernel) (by decide +kernel)
set_option maxRecDepth 20000 in
theorem gX7_strike_X7_remembers : GoodIn wsX7_strike (wsV RX7 88 RX7 yX7_remembers wsX7_remembers) := goodIn_app (goodIn_of _ (by decide +kernel)) ggX7_strike_X7_remembers
set_option maxRecDepth 20000 in
theorem ggX7_strike_X7_puts : GoodIn wsX7_strike wsX7_puts := goodIn_r _ [32, 18, 20, 21, 3, 22, 14, 15, 16, 17, 19, 33, 34, 35, 36, 37, 38, 39, 40, 41, 42, 43] (by decide +kernel) (by decide +kernel)
set_option maxRecDepth 20000 in
theorem gX7_strike_X7_puts : GoodIn wsX7_strike (wsV RX7 91 RX7 yX7_puts wsX7_puts) := goodIn_app (goodIn_of _ (by decide +kernel)) ggX7_strike_X7_puts
theorem dX7_strike_0 : decode cX7_strike 0 = .ok (.iload_n 3, 1) := by decide +kernel
theorem dX7_strike_1 : decode cX7_strike 1 = .ok (.invokestatic 82, 3) := by decide +kernel
theorem dX7_strike_4 : decode cX7_strike 4 = .ok (.ifCond .eq 11, 3) := by decide +kernel
theorem dX7_strike_7 : decode cX7_strike 7 = .ok (.iload_n 1, 1) := by decide +kernel
theorem dX7_strike_8 : decode cX7_strike 8 = .ok (.iload_n 2, 1) := by decide +kernel
theorem dX7_strike_9 : decode cX7_strike 9 = .ok (.invokestatic 85, 3) := by decide +kernel
theorem dX7_strike_12 : decode cX7_strike 12 = .ok (.goto 4, 3) := by decide +kernel
theorem dX7_strike_15 : decode cX7_strike 15 = .ok (.iconst (-1), 1) := by decide +kernel
theorem dX7_strike_16 : decode cX7_strike 16 = .ok (.istore 5, 2) := by decide +kernel
theorem dX7_strike_18 : decode cX7_strike 18 = .ok (.iload 5, 2) := by decide +kernel
theorem dX7_strike_20 : decode cX7_strike 20 = .ok (.ifCond .ge 5, 3) := by decide +kernel
theorem dX7_strike_23 : decode cX7_strike 23 = .ok (.iconst (-1), 1) := by decide +kernel
theorem dX7_strike_24 : decode cX7_strike 24 = .ok (.ireturn, 1) := by decide +kernel
theorem dX7_strike_25 : decode cX7_strike 25 = .ok (.iload 4, 2) := by decide +kernel
theorem dX7_strike_27 : decode cX7_strike 27 = .ok (.iconst 1, 1) := by decide +kernel
theorem dX7_strike_28 : decode cX7_strike 28 = .ok (.bipush 99, 2) := by decide +kernel
theorem dX7_strike_30 : decode cX7_strike 30 = .ok (.invokestatic 41, 3) := by decide +kernel
theorem dX7_strike_33 : decode cX7_strike 33 = .ok (.ifCond .ne 6, 3) := by decide +kernel
theorem dX7_strike_36 : decode cX7_strike 36 = .ok (.bipush (-2), 2) := by decide +kernel
theorem dX7_strike_38 : decode cX7_strike 38 = .ok (.ireturn, 1) := by decide +kernel
theorem dX7_strike_39 : decode cX7_strike 39 = .ok (.aload_n 0, 1) := by decide +kernel
theorem dX7_strike_40 : decode cX7_strike 40 = .ok (.iload 5, 2) := by decide +kernel
theorem dX7_strike_42 : decode cX7_strike 42 = .ok (.iload_n 3, 1) := by decide +kernel
theorem dX7_strike_43 : decode cX7_strike 43 = .ok (.iload 4, 2) := by decide +kernel
theorem dX7_strike_45 : decode cX7_strike 45 = .ok (.invokevirtual 55, 3) := by decide +kernel
theorem dX7_strike_48 : decode cX7_strike 48 = .ok (.istore 6, 2) := by decide +kernel
theorem dX7_strike_50 : decode cX7_strike 50 = .ok (.iload 6, 2) := by decide +kernel
theorem dX7_strike_52 : decode cX7_strike 52 = .ok (.ifCond .ne 6, 3) := by decide +kernel
theorem dX7_strike_55 : decode cX7_strike 55 = .ok (.bipush (-5), 2) := by decide +kernel
theorem dX7_strike_57 : decode cX7_strike 57 = .ok (.ireturn, 1) := by decide +kernel
theorem dX7_strike_58 : decode cX7_strike 58 = .ok (.aload_n 0, 1) := by decide +kernel
theorem dX7_strike_59 : decode cX7_strike 59 = .ok (.invokevirtual 88, 3) := by decide +kernel
theorem dX7_strike_62 : decode cX7_strike 62 = .ok (.aload_n 0, 1) := by decide +kernel
theorem dX7_strike_63 : decode cX7_strike 63 = .ok (.iload 5, 2) := by decide +kernel
theorem dX7_strike_65 : decode cX7_strike 65 = .ok (.iload_n 3, 1) := by decide +kernel
theorem dX7_strike_66 : decode cX7_strike 66 = .ok (.iload 4, 2) := by decide +kernel
theorem dX7_strike_68 : decode cX7_strike 68 = .ok (.iconst 0, 1) := by decide +kernel
theorem dX7_strike_69 : decode cX7_strike 69 = .ok (.invokevirtual 91, 3) := by decide +kernel
theorem dX7_strike_72 : decode cX7_strike 72 = .ok (.iload 6, 2) := by decide +kernel
theorem dX7_strike_74 : decode cX7_strike 74 = .ok (.ireturn, 1) := by decide +kernel
set_option maxRecDepth 20000 in
theorem ggX7_turn_X7_roseOf : GoodIn wsX7_turn wsX7_roseOf := goodIn_r _ [5, 6, 7, 4, 8, 9, 10, 11] (by decide +kernel) (by decide +kernel)
set_option maxRecDepth 20000 in
theorem gX7_turn_X7_roseOf : GoodIn wsX7_turn (va_wsS RX7 85 yX7_roseOf wsX7_roseOf) := goodIn_app (goodIn_of _ (by decide +kernel)) ggX7_turn_X7_roseOf
set_option maxRecDepth 20000 in
theorem ggX7_turn_X7_in : GoodIn wsX7_turn wsX7_in := goodIn_r _ [11] (by decide +kernel) (by decide +kernel)
set_option maxRecDepth 20000 in
theorem gX7_turn_X7_in : GoodIn wsX7_turn (va_wsS RX7 41 yX7_in wsX7_in) := goodIn_app (goodIn_of _ (by decide +kernel)) ggX7_turn_X7_in
set_option maxRecDepth 20000 in
theorem ggX7_turn_X7_looks : GoodIn wsX7_turn wsX7_looks := goodIn_r _ [15, 16, 17, 18, 19, 4, 20, 21, 22, 23, 24, 25, 26, 27, 28, 29, 40, 41, 42, 43, 44, 45, 46, 47, 48, 49, 50] (by decide +kernel) (by decide +kernel)
set_option maxRecDepth 20000 in
theorem gX7_turn_X7_looks : GoodIn wsX7_turn (wsV RX7 65 RX7 yX7_looks wsX7_looks) := goodIn_app (goodIn_of _ (by decide +kernel)) ggX7_turn_X7_looks
set_option maxRecDepth 20000 in
theorem ggX7_turn_X7_remembers : GoodIn wsX7_turn wsX7_remembers := goodIn_r _ [33, 34, 35, 21, 40, 41, 42, 43, 44, 45, 46, 47, 48, 49, 50] (by decide +kernel) (by decide +kernel)
set_option maxRecDepth 20000 in
theorem gX7_turn_X7_remembers : GoodIn wsX7_turn (wsV RX7 88 RX7 yX7_remembers wsX7_remembers) := goodIn_app (goodIn_of _ (by decide +kernel)) ggX7_turn_X7_remembers
set_option maxRecDepth 20000 in
theorem ggX7_turn_X7_at : GoodIn wsX7_turn wsX7_at := goodIn_r _ [20, 21, 22, 23, 24, 4, 25, 40, 41, 42, 43, 44, 45, 46, 47, 48, 49, 50] (by decide +kernel) (by decide +kernel)
set_option maxRecDepth 20000 in
theorem gX7_turn_X7_at : GoodIn wsX7_turn (wsV RX7 55 RX7 yX7_at wsX7_at) := goodIn_app (goodIn_of _ (by decide +kernel)) ggX7_turn_X7_at
set_option maxRecDepth 20000 in
theorem ggX7_turn_X7_puts : GoodIn wsX7_turn wsX7_puts := goodIn_r _ [39, 21, 23, 24, 4, 25, 17, 18, 19, 20, 22, 40, 41, 42, 43, 44, 45, 46, 47, 48, 49, 50] (by decide +kernel) (by decide +kernel)
set_option maxRecDepth 20000 in
theorem gX7_turn_X7_puts : GoodIn wsX7_turn (wsV RX7 91 RX7 yX7_puts wsX7_puts) := goodIn_app (goodIn_of _ (by decide +kernel)) ggX7_turn_X7_puts
theorem dX7_turn_0 : decode cX7_turn 0 = .ok (.iload_n 1, 1) := by decide +kernel
theorem dX7_turn_1 : decode cX7_turn 1 = .ok (.iload_n 2, 1) := by decide +kernel
theorem dX7_turn_2 : decode cX7_turn 2 = .ok (.invokestatic 85, 3) := by decide +kernel
theorem dX7_turn_5 : decode cX7_turn 5 = .ok (.istore 4, 2) := by decide +kernel
theorem dX7_turn_7 : decode cX7_turn 7 = .ok (.iload 4, 2) := by decide +kernel
theorem dX7_turn_9 : decode cX7_turn 9 = .ok (.ifCond .ge 5, 3) := by decide +kernel
theorem dX7_turn_12 : decode cX7_turn 12 = .ok (.iconst (-1), 1) := by decide +kernel
theorem dX7_turn_13 : decode cX7_turn 13 = .ok (.ireturn, 1) := by decide +kernel
theorem dX7_turn_14 : decode cX7_turn 14 = .ok (.iload_n 3, 1) := by decide +kernel
theorem dX7_turn_15 : decode cX7_turn 15 = .ok (.iconst 1, 1) := by decide +kernel
theorem dX7_turn_16 : decode cX7_turn 16 = .ok (.bipush 15, 2) := by decide +kernel
theorem dX7_turn_18 : decode cX7_turn 18 = .ok (.invokestatic 41, 3) := by decide +kernel
theorem dX7_turn_21 : decode cX7_turn 21 = .ok (.ifCond .ne 6, 3) := by decide +kernel
theorem dX7_turn_24 : decode cX7_turn 24 = .ok (.bipush (-2), 2) := by decide +kernel
theorem dX7_turn_26 : decode cX7_turn 26 = .ok (.ireturn, 1) := by decide +kernel
theorem dX7_turn_27 : decode cX7_turn 27 = .ok (.aload_n 0, 1) := by decide +kernel
theorem dX7_turn_28 : decode cX7_turn 28 = .ok (.iload 4, 2) := by decide +kernel
theorem dX7_turn_30 : decode cX7_turn 30 = .ok (.invokevirtual 65, 3) := by decide +kernel
theorem dX7_turn_33 : decode cX7_turn 33 = .ok (.istore 5, 2) := by decide +kernel
theorem dX7_turn_35 : decode cX7_turn 35 = .ok (.iload 5, 2) := by decide +kernel
theorem dX7_turn_37 : decode cX7_turn 37 = .ok (.ifCond .ne 6, 3) := by decide +kernel
theorem dX7_turn_40 : decode cX7_turn 40 = .ok (.bipush (-5), 2) := by decide +kernel
theorem dX7_turn_42 : decode cX7_turn 42 = .ok (.ireturn, 1) := by decide +kernel
theorem dX7_turn_43 : decode cX7_turn 43 = .ok (.aload_n 0, 1) := by decide +kernel
theorem dX7_turn_44 : decode cX7_turn 44 = .ok (.invokevirtual 88, 3) := by decide +kernel
theorem dX7_turn_47 : decode cX7_turn 47 = .ok (.iconst 1, 1) := by decide +kernel
theorem dX7_turn_48 : decode cX7_turn 48 = .ok (.istore 6, 2) := by decide +kernel
theorem dX7_turn_50 : decode cX7_turn 50 = .ok (.iload 6, 2) := by decide +kernel
theorem dX7_turn_52 : decode cX7_turn 52 = .ok (.bipush 99, 2) := by decide +kernel
theorem dX7_turn_54 : decode cX7_turn 54 = .ok (.if_icmp .gt 80, 3) := by decide +kernel
theorem dX7_turn_57 : decode cX7_turn 57 = .ok (.iconst 0, 1) := by decide +kernel
theorem dX7_turn_58 : decode cX7_turn 58 = .ok (.istore 7, 2) := by decide +kernel
theorem dX7_turn_60 : decode cX7_turn 60 = .ok (.iload 7, 2) := by decide +kernel
theorem dX7_turn_62 : decode cX7_turn 62 = .ok (.bipush 16, 2) := by decide +kernel
theorem dX7_turn_64 : decode cX7_turn 64 = .ok (.if_icmp .ge 31, 3) := by decide +kernel
theorem dX7_turn_67 : decode cX7_turn 67 = .ok (.aload_n 0, 1) := by decide +kernel
theorem dX7_turn_68 : decode cX7_turn 68 = .ok (.getfield 32, 3) := by decide +kernel
theorem dX7_turn_71 : decode cX7_turn 71 = .ok (.iload 7, 2) := by decide +kernel
theorem dX7_turn_73 : decode cX7_turn 73 = .ok (.iload_n 3, 1) := by decide +kernel
theorem dX7_turn_74 : decode cX7_turn 74 = .ok (.iadd, 1) := by decide +kernel
theorem dX7_turn_75 : decode cX7_turn 75 = .ok (.bipush 16, 2) := by decide +kernel
theorem dX7_turn_77 : decode cX7_turn 77 = .ok (.irem, 1) := by decide +kernel
theorem dX7_turn_78 : decode cX7_turn 78 = .ok (.aload_n 0, 1) := by decide +kernel
theorem dX7_turn_79 : decode cX7_turn 79 = .ok (.iload 4, 2) := by decide +kernel
theorem dX7_turn_81 : decode cX7_turn 81 = .ok (.iload 7, 2) := by decide +kernel
theorem dX7_turn_83 : decode cX7_turn 83 = .ok (.iload 6, 2) := by decide +kernel
theorem dX7_turn_85 : decode cX7_turn 85 = .ok (.invokevirtual 55, 3) := by decide +kernel
theorem dX7_turn_88 : decode cX7_turn 88 = .ok (.iastore, 1) := by decide +kernel
theorem dX7_turn_89 : decode cX7_turn 89 = .ok (.iinc 7 1, 3) := by decide +kernel
theorem dX7_turn_92 : decode cX7_turn 92 = .ok (.goto (-32), 3) := by decide +kernel
theorem dX7_turn_95 : decode cX7_turn 95 = .ok (.iconst 0, 1) := by decide +kernel
theorem dX7_turn_96 : decode cX7_turn 96 = .ok (.istore 7, 2) := by decide +kernel
theorem dX7_turn_98 : decode cX7_turn 98 = .ok (.iload 7, 2) := by decide +kernel
theorem dX7_turn_100 : decode cX7_turn 100 = .ok (.bipush 16, 2) := by decide +kernel
theorem dX7_turn_102 : decode cX7_turn 102 = .ok (.if_icmp .ge 26, 3) := by decide +kernel
theorem dX7_turn_105 : decode cX7_turn 105 = .ok (.aload_n 0, 1) := by decide +kernel
theorem dX7_turn_106 : decode cX7_turn 106 = .ok (.iload 4, 2) := by decide +kernel
theorem dX7_turn_108 : decode cX7_turn 108 = .ok (.iload 7, 2) := by decide +kernel
theorem dX7_turn_110 : decode cX7_turn 110 = .ok (.iload 6, 2) := by decide +kernel
theorem dX7_turn_112 : decode cX7_turn 112 = .ok (.aload_n 0, 1) := by decide +kernel
theorem dX7_turn_113 : decode cX7_turn 113 = .ok (.getfield 32, 3) := by decide +kernel
theorem dX7_turn_116 : decode cX7_turn 116 = .ok (.iload 7, 2) := by decide +kernel
theorem dX7_turn_118 : decode cX7_turn 118 = .ok (.iaload, 1) := by decide +kernel
theorem dX7_turn_119 : decode cX7_turn 119 = .ok (.invokevirtual 91, 3) := by decide +kernel
theorem dX7_turn_122 : decode cX7_turn 122 = .ok (.iinc 7 1, 3) := by decide +kernel
theorem dX7_turn_125 : decode cX7_turn 125 = .ok (.goto (-27), 3) := by decide +kernel
theorem dX7_turn_128 : decode cX7_turn 128 = .ok (.iinc 6 1, 3) := by decide +kernel
theorem dX7_turn_131 : decode cX7_turn 131 = .ok (.goto (-81), 3) := by decide +kernel
theorem dX7_turn_134 : decode cX7_turn 134 = .ok (.iload 5, 2) := by decide +kernel
theorem dX7_turn_136 : decode cX7_turn 136 = .ok (.ireturn, 1) := by decide +kernel
set_option maxRecDepth 20000 in
theorem ggX7_set_X7_in : GoodIn wsX7_set wsX7_in := goodIn_r _ [5] (by decide +kernel) (by decide +kernel)
set_option maxRecDepth 20000 in
theorem gX7_set_X7_in : GoodIn wsX7_set (va_wsS RX7 41 yX7_in wsX7_in) := goodIn_app (goodIn_of _ (by decide +kernel)) ggX7_set_X7_in
set_option maxRecDepth 20000 in
theorem ggX7_set_X7_num : GoodIn wsX7_set wsX7_num := goodIn_r _ [9, 1, 16, 17, 18, 19, 20, 21, 22, 23, 24, 25, 26] (by decide +kernel) (by decide +kernel)
set_option maxRecDepth 20000 in
theorem gX7_set_X7_num : GoodIn wsX7_set (wsV RX7 62 RX7 yX7_num wsX7_num) := goodIn_app (goodIn_of _ (by decide +kernel)) ggX7_set_X7_num
set_option maxRecDepth 20000 in
theorem ggX7_set_X7_remembers : GoodIn wsX7_set wsX7_remembers := goodIn_r _ [13, 14, 15, 1, 16, 17, 18, 19, 20, 21, 22, 23, 24, 25, 26] (by decide +kernel) (by decide +kernel)
set_option maxRecDepth 20000 in
theorem gX7_set_X7_remembers : GoodIn wsX7_set (wsV RX7 88 RX7 yX7_remembers wsX7_remembers) := goodIn_app (goodIn_of _ (by decide +kernel)) ggX7_set_X7_remembers
theorem dX7_set_0 : decode cX7_set 0 = .ok (.iload_n 1, 1) := by decide +kernel
theorem dX7_set_1 : decode cX7_set 1 = .ok (.iconst 0, 1) := by decide +kernel
theorem dX7_set_2 : decode cX7_set 2 = .ok (.iconst 2, 1) := by decide +kernel
theorem dX7_set_3 : decode cX7_set 3 = .ok (.invokestatic 41, 3) := by decide +kernel
theorem dX7_set_6 : decode cX7_set 6 = .ok (.ifCond .ne 5, 3) := by decide +kernel
theorem dX7_set_9 : decode cX7_set 9 = .ok (.iconst (-1), 1) := by decide +kernel
theorem dX7_set_10 : decode cX7_set 10 = .ok (.ireturn, 1) := by decide +kernel
theorem dX7_set_11 : decode cX7_set 11 = .ok (.iload_n 1, 1) := by decide +kernel
theorem dX7_set_12 : decode cX7_set 12 = .ok (.iconst 2, 1) := by decide +kernel
theorem dX7_set_13 : decode cX7_set 13 = .ok (.if_icmp .ne 13, 3) := by decide +kernel
theorem dX7_set_16 : decode cX7_set 16 = .ok (.iload_n 2, 1) := by decide +kernel
theorem dX7_set_17 : decode cX7_set 17 = .ok (.iconst 0, 1) := by decide +kernel
theorem dX7_set_18 : decode cX7_set 18 = .ok (.bipush 9, 2) := by decide +kernel
theorem dX7_set_20 : decode cX7_set 20 = .ok (.invokestatic 41, 3) := by decide +kernel
theorem dX7_set_23 : decode cX7_set 23 = .ok (.goto 10, 3) := by decide +kernel
theorem dX7_set_26 : decode cX7_set 26 = .ok (.iload_n 2, 1) := by decide +kernel
theorem dX7_set_27 : decode cX7_set 27 = .ok (.iconst 1, 1) := by decide +kernel
theorem dX7_set_28 : decode cX7_set 28 = .ok (.bipush 99, 2) := by decide +kernel
theorem dX7_set_30 : decode cX7_set 30 = .ok (.invokestatic 41, 3) := by decide +kernel
theorem dX7_set_33 : decode cX7_set 33 = .ok (.istore_n 3, 1) := by decide +kernel
theorem dX7_set_34 : decode cX7_set 34 = .ok (.iload_n 3, 1) := by decide +kernel
theorem dX7_set_35 : decode cX7_set 35 = .ok (.ifCond .ne 6, 3) := by decide +kernel
theorem dX7_set_38 : decode cX7_set 38 = .ok (.bipush (-2), 2) := by decide +kernel
theorem dX7_set_40 : decode cX7_set 40 = .ok (.ireturn, 1) := by decide +kernel
theorem dX7_set_41 : decode cX7_set 41 = .ok (.iload_n 1, 1) := by decide +kernel
theorem dX7_set_42 : decode cX7_set 42 = .ok (.ifCond .ne 17, 3) := by decide +kernel
theorem dX7_set_45 : decode cX7_set 45 = .ok (.iload_n 2, 1) := by decide +kernel
theorem dX7_set_46 : decode cX7_set 46 = .ok (.i2l, 1) := by decide +kernel
theorem dX7_set_47 : decode cX7_set 47 = .ok (.aload_n 0, 1) := by decide +kernel
theorem dX7_set_48 : decode cX7_set 48 = .ok (.getfield 7, 3) := by decide +kernel
theorem dX7_set_51 : decode cX7_set 51 = .ok (.sipush 7153, 3) := by decide +kernel
theorem dX7_set_54 : decode cX7_set 54 = .ok (.laload, 1) := by decide +kernel
theorem dX7_set_55 : decode cX7_set 55 = .ok (.lcmp, 1) := by decide +kernel
theorem dX7_set_56 : decode cX7_set 56 = .ok (.ifCond .ge 22, 3) := by decide +kernel
theorem dX7_set_59 : decode cX7_set 59 = .ok (.iload_n 1, 1) := by decide +kernel
theorem dX7_set_60 : decode cX7_set 60 = .ok (.iconst 1, 1) := by decide +kernel
theorem dX7_set_61 : decode cX7_set 61 = .ok (.if_icmp .ne 21, 3) := by decide +kernel
theorem dX7_set_64 : decode cX7_set 64 = .ok (.iload_n 2, 1) := by decide +kernel
theorem dX7_set_65 : decode cX7_set 65 = .ok (.i2l, 1) := by decide +kernel
theorem dX7_set_66 : decode cX7_set 66 = .ok (.aload_n 0, 1) := by decide +kernel
theorem dX7_set_67 : decode cX7_set 67 = .ok (.getfield 7, 3) := by decide +kernel
theorem dX7_set_70 : decode cX7_set 70 = .ok (.sipush 7152, 3) := by decide +kernel
theorem dX7_set_73 : decode cX7_set 73 = .ok (.laload, 1) := by decide +kernel
theorem dX7_set_74 : decode cX7_set 74 = .ok (.lcmp, 1) := by decide +kernel
theorem dX7_set_75 : decode cX7_set 75 = .ok (.ifCond .gt 7, 3) := by decide +kernel
theorem dX7_set_78 : decode cX7_set 78 = .ok (.iconst 1, 1) := by decide +kernel
theorem dX7_set_79 : decode cX7_set 79 = .ok (.goto 4, 3) := by decide +kernel
theorem dX7_set_82 : decode cX7_set 82 = .ok (.iconst 0, 1) := by decide +kernel
theorem dX7_set_83 : decode cX7_set 83 = .ok (.istore 4, 2) := by decide +kernel
theorem dX7_set_85 : decode cX7_set 85 = .ok (.iload 4, 2) := by decide +kernel
theorem dX7_set_87 : decode cX7_set 87 = .ok (.ifCond .eq 6, 3) := by decide +kernel
theorem dX7_set_90 : decode cX7_set 90 = .ok (.bipush (-4), 2) := by decide +kernel
theorem dX7_set_92 : decode cX7_set 92 = .ok (.ireturn, 1) := by decide +kernel
theorem dX7_set_93 : decode cX7_set 93 = .ok (.aload_n 0, 1) := by decide +kernel
theorem dX7_set_94 : decode cX7_set 94 = .ok (.sipush 7152, 3) := by decide +kernel
theorem dX7_set_97 : decode cX7_set 97 = .ok (.iload_n 1, 1) := by decide +kernel
theorem dX7_set_98 : decode cX7_set 98 = .ok (.iadd, 1) := by decide +kernel
theorem dX7_set_99 : decode cX7_set 99 = .ok (.invokevirtual 62, 3) := by decide +kernel
theorem dX7_set_102 : decode cX7_set 102 = .ok (.istore 5, 2) := by decide +kernel
theorem dX7_set_104 : decode cX7_set 104 = .ok (.iload 5, 2) := by decide +kernel
theorem dX7_set_106 : decode cX7_set 106 = .ok (.iload_n 2, 1) := by decide +kernel
theorem dX7_set_107 : decode cX7_set 107 = .ok (.if_icmp .ne 6, 3) := by decide +kernel
theorem dX7_set_110 : decode cX7_set 110 = .ok (.bipush (-5), 2) := by decide +kernel
theorem dX7_set_112 : decode cX7_set 112 = .ok (.ireturn, 1) := by decide +kernel
theorem dX7_set_113 : decode cX7_set 113 = .ok (.aload_n 0, 1) := by decide +kernel
theorem dX7_set_114 : decode cX7_set 114 = .ok (.invokevirtual 88, 3) := by decide +kernel
theorem dX7_set_117 : decode cX7_set 117 = .ok (.aload_n 0, 1) := by decide +kernel
theorem dX7_set_118 : decode cX7_set 118 = .ok (.getfield 7, 3) := by decide +kernel
theorem dX7_set_121 : decode cX7_set 121 = .ok (.sipush 7152, 3) := by decide +kernel
theorem dX7_set_124 : decode cX7_set 124 = .ok (.iload_n 1, 1) := by decide +kernel
theorem dX7_set_125 : decode cX7_set 125 = .ok (.iadd, 1) := by decide +kernel
theorem dX7_set_126 : decode cX7_set 126 = .ok (.iload_n 2, 1) := by decide +kernel
theorem dX7_set_127 : decode cX7_set 127 = .ok (.i2l, 1) := by decide +kernel
theorem dX7_set_128 : decode cX7_set 128 = .ok (.lastore, 1) := by decide +kernel
theorem dX7_set_129 : decode cX7_set 129 = .ok (.iload 5, 2) := by decide +kernel
theorem dX7_set_131 : decode cX7_set 131 = .ok (.ireturn, 1) := by decide +kernel
set_option maxRecDepth 20000 in
theorem ggX7_petalOf_X7_num : GoodIn wsX7_petalOf wsX7_num := goodIn_r _ [5, 6, 7, 8, 9, 10, 11, 12, 13, 14, 15, 16, 17] (by decide +kernel) (by decide +kernel)
set_option maxRecDepth 20000 in
theorem gX7_petalOf_X7_num : GoodIn wsX7_petalOf (wsV RX7 62 RX7 yX7_num wsX7_num) := goodIn_app (goodIn_of _ (by decide +kernel)) ggX7_petalOf_X7_num
theorem dX7_petalOf_0 : decode cX7_petalOf 0 = .ok (.aload_n 0, 1) := by decide +kernel
theorem dX7_petalOf_1 : decode cX7_petalOf 1 = .ok (.sipush 6352, 3) := by decide +kernel
theorem dX7_petalOf_4 : decode cX7_petalOf 4 = .ok (.bipush 48, 2) := by decide +kernel
theorem dX7_petalOf_6 : decode cX7_petalOf 6 = .ok (.iload_n 1, 1) := by decide +kernel
theorem dX7_petalOf_7 : decode cX7_petalOf 7 = .ok (.imul, 1) := by decide +kernel
theorem dX7_petalOf_8 : decode cX7_petalOf 8 = .ok (.iadd, 1) := by decide +kernel
theorem dX7_petalOf_9 : decode cX7_petalOf 9 = .ok (.iload_n 2, 1) := by decide +kernel
theorem dX7_petalOf_10 : decode cX7_petalOf 10 = .ok (.iadd, 1) := by decide +kernel
theorem dX7_petalOf_11 : decode cX7_petalOf 11 = .ok (.invokevirtual 62, 3) := by decide +kernel
theorem dX7_petalOf_14 : decode cX7_petalOf 14 = .ok (.ireturn, 1) := by decide +kernel
set_option maxRecDepth 20000 in
theorem ggX7_differs_X7_num : GoodIn wsX7_differs wsX7_num := goodIn_r _ [6, 7, 49, 50, 51, 52, 53, 54, 55, 56, 57, 58, 59] (by decide +kernel) (by decide +kernel)
set_option maxRecDepth 20000 in
theorem gX7_differs_X7_num : GoodIn wsX7_differs (wsV RX7 62 RX7 yX7_num wsX7_num) := goodIn_app (goodIn_of _ (by decide +kernel)) ggX7_differs_X7_num
set_option maxRecDepth 20000 in
theorem ggX7_differs_X7_calmShare : GoodIn wsX7_differs wsX7_calmShare := goodIn_r _ [11, 12, 13, 14, 5, 15, 16, 17, 18, 19, 20, 21, 22, 23, 24, 7, 25, 26, 27, 28, 29, 30, 31, 32, 33, 34, 35, 36, 2, 3, 4, 6, 49, 50, 51, 52, 53, 54, 55, 56, 57, 58, 59] (by decide +kernel) (by decide +kernel)
set_option maxRecDepth 20000 in
theorem gX7_differs_X7_calmShare : GoodIn wsX7_differs (wsV RX7 95 RX7 yX7_calmShare wsX7_calmShare) := goodIn_app (goodIn_of _ (by decide +kernel)) ggX7_differs_X7_calmShare
set_option maxRecDepth 20000 in
theorem ggX7_differs_X7_finds : GoodIn wsX7_differs wsX7_finds := goodIn_r _ [40, 1, 20, 16, 17, 18, 5, 19, 21, 22, 23, 24, 7, 25, 26, 27, 28, 29, 30, 31, 32, 41, 42, 43, 44, 49, 50, 51, 52, 53, 54, 55, 56, 57, 58, 59] (by decide +kernel) (by decide +kernel)
set_option maxRecDepth 20000 in
theorem gX7_differs_X7_finds : GoodIn wsX7_differs (wsV RX7 98 RX7 yX7_finds wsX7_finds) := goodIn_app (goodIn_of _ (by decide +kernel)) ggX7_differs_X7_finds
set_option maxRecDepth 20000 in
theorem ggX7_differs_X7_petalOf : GoodIn wsX7_differs wsX7_petalOf := goodIn_r _ [48, 2, 3, 4, 5, 6, 7, 49, 50, 51, 52, 53, 54, 55, 56, 57, 58, 59] (by decide +kernel) (by decide +kernel)
set_option maxRecDepth 20000 in
theorem gX7_differs_X7_petalOf : GoodIn wsX7_differs (wsV RX7 102 RX7 yX7_petalOf wsX7_petalOf) := goodIn_app (goodIn_of _ (by decide +kernel)) ggX7_differs_X7_petalOf
theorem dX7_differs_0 : decode cX7_differs 0 = .ok (.aload_n 0, 1) := by decide +kernel
theorem dX7_differs_1 : decode cX7_differs 1 = .ok (.sipush 7120, 3) := by decide +kernel
theorem dX7_differs_4 : decode cX7_differs 4 = .ok (.iload_n 1, 1) := by decide +kernel
theorem dX7_differs_5 : decode cX7_differs 5 = .ok (.iadd, 1) := by decide +kernel
theorem dX7_differs_6 : decode cX7_differs 6 = .ok (.invokevirtual 62, 3) := by decide +kernel
theorem dX7_differs_9 : decode cX7_differs 9 = .ok (.aload_n 0, 1) := by decide +kernel
theorem dX7_differs_10 : decode cX7_differs 10 = .ok (.iload_n 1, 1) := by decide +kernel
theorem dX7_differs_11 : decode cX7_differs 11 = .ok (.invokevirtual 95, 3) := by decide +kernel
theorem dX7_differs_14 : decode cX7_differs 14 = .ok (.if_icmp .ne 7, 3) := by decide +kernel
theorem dX7_differs_17 : decode cX7_differs 17 = .ok (.iconst 0, 1) := by decide +kernel
theorem dX7_differs_18 : decode cX7_differs 18 = .ok (.goto 4, 3) := by decide +kernel
theorem dX7_differs_21 : decode cX7_differs 21 = .ok (.iconst 1, 1) := by decide +kernel
theorem dX7_differs_22 : decode cX7_differs 22 = .ok (.istore_n 2, 1) := by decide +kernel
theorem dX7_differs_23 : decode cX7_differs 23 = .ok (.aload_n 0, 1) := by decide +kernel
theorem dX7_differs_24 : decode cX7_differs 24 = .ok (.iload_n 1, 1) := by decide +kernel
theorem dX7_differs_25 : decode cX7_differs 25 = .ok (.invokevirtual 98, 3) := by decide +kernel
theorem dX7_differs_28 : decode cX7_differs 28 = .ok (.iconst 0, 1) := by decide +kernel
theorem dX7_differs_29 : decode cX7_differs 29 = .ok (.istore_n 3, 1) := by decide +kernel
theorem dX7_differs_30 : decode cX7_differs 30 = .ok (.iload_n 3, 1) := by decide +kernel
theorem dX7_differs_31 : decode cX7_differs 31 = .ok (.bipush 48, 2) := by decide +kernel
theorem dX7_differs_33 : decode cX7_differs 33 = .ok (.if_icmp .ge 32, 3) := by decide +kernel
theorem dX7_differs_36 : decode cX7_differs 36 = .ok (.iload_n 2, 1) := by decide +kernel
theorem dX7_differs_37 : decode cX7_differs 37 = .ok (.aload_n 0, 1) := by decide +kernel
theorem dX7_differs_38 : decode cX7_differs 38 = .ok (.iload_n 1, 1) := by decide +kernel
theorem dX7_differs_39 : decode cX7_differs 39 = .ok (.iload_n 3, 1) := by decide +kernel
theorem dX7_differs_40 : decode cX7_differs 40 = .ok (.invokevirtual 102, 3) := by decide +kernel
theorem dX7_differs_43 : decode cX7_differs 43 = .ok (.aload_n 0, 1) := by decide +kernel
theorem dX7_differs_44 : decode cX7_differs 44 = .ok (.getfield 26, 3) := by decide +kernel
theorem dX7_differs_47 : decode cX7_differs 47 = .ok (.iload_n 3, 1) := by decide +kernel
theorem dX7_differs_48 : decode cX7_differs 48 = .ok (.iaload, 1) := by decide +kernel
theorem dX7_differs_49 : decode cX7_differs 49 = .ok (.if_icmp .ne 7, 3) := by decide +kernel
theorem dX7_differs_52 : decode cX7_differs 52 = .ok (.iconst 0, 1) := by decide +kernel
theorem dX7_differs_53 : decode cX7_differs 53 = .ok (.goto 4, 3) := by decide +kernel
theorem dX7_differs_56 : decode cX7_differs 56 = .ok (.iconst 1, 1) := by decide +kernel
theorem dX7_differs_57 : decode cX7_differs 57 = .ok (.iadd, 1) := by decide +kernel
theorem dX7_differs_58 : decode cX7_differs 58 = .ok (.istore_n 2, 1) := by decide +kernel
theorem dX7_differs_59 : decode cX7_differs 59 = .ok (.iinc 3 1, 3) := by decide +kernel
theorem dX7_differs_62 : decode cX7_differs 62 = .ok (.goto (-32), 3) := by decide +kernel
theorem dX7_differs_65 : decode cX7_differs 65 = .ok (.iload_n 2, 1) := by decide +kernel
theorem dX7_differs_66 : decode cX7_differs 66 = .ok (.ireturn, 1) := by decide +kernel
set_option maxRecDepth 20000 in
theorem ggX7_farOff_X7_num : GoodIn wsX7_farOff wsX7_num := goodIn_r _ [6, 7, 49, 50, 51, 52, 53, 54, 55, 56, 57, 58, 59] (by decide +kernel) (by decide +kernel)
set_option maxRecDepth 20000 in
theorem gX7_farOff_X7_num : GoodIn wsX7_farOff (wsV RX7 62 RX7 yX7_num wsX7_num) := goodIn_app (goodIn_of _ (by decide +kernel)) ggX7_farOff_X7_num
set_option maxRecDepth 20000 in
theorem ggX7_farOff_X7_calmShare : GoodIn wsX7_farOff wsX7_calmShare := goodIn_r _ [11, 12, 13, 14, 5, 15, 16, 17, 18, 19, 20, 21, 22, 23, 24, 7, 25, 26, 27, 28, 29, 30, 31, 32, 33, 34, 35, 36, 2, 3, 4, 6, 49, 50, 51, 52, 53, 54, 55, 56, 57, 58, 59] (by decide +kernel) (by decide +kernel)
set_option maxRecDepth 20000 in
theorem gX7_farOff_X7_calmShare : GoodIn wsX7_farOff (wsV RX7 95 RX7 yX7_calmShare wsX7_calmShare) := goodIn_app (goodIn_of _ (by decide +kernel)) ggX7_farOff_X7_calmShare
set_option maxRecDepth 20000 in
theorem ggX7_farOff_X7_finds : GoodIn wsX7_farOff wsX7_finds := goodIn_r _ [40, 1, 20, 16, 17, 18, 5, 19, 21, 22, 23, 24, 7, 25, 26, 27, 28, 29, 30, 31, 32, 41, 42, 43, 44, 49, 50, 51, 52, 53, 54, 55, 56, 57, 58, 59] (by decide +kernel) (by decide +kernel)
set_option maxRecDepth 20000 in
theorem gX7_farOff_X7_finds : GoodIn wsX7_farOff (wsV RX7 98 RX7 yX7_finds wsX7_finds) := goodIn_app (goodIn_of _ (by decide +kernel)) ggX7_farOff_X7_finds
set_option maxRecDepth 20000 in
theorem ggX7_farOff_X7_petalOf : GoodIn wsX7_farOff wsX7_petalOf := goodIn_r _ [48, 2, 3, 4, 5, 6, 7, 49, 50, 51, 52, 53, 54, 55, 56, 57, 58, 59] (by decide +kernel) (by decide +kernel)
set_option maxRecDepth 20000 in
theorem gX7_farOff_X7_petalOf : GoodIn wsX7_farOff (wsV RX7 102 RX7 yX7_petalOf wsX7_petalOf) := goodIn_app (goodIn_of _ (by decide +kernel)) ggX7_farOff_X7_petalOf
theorem dX7_farOff_0 : decode cX7_farOff 0 = .ok (.aload_n 0, 1) := by decide +kernel
theorem dX7_farOff_1 : decode cX7_farOff 1 = .ok (.sipush 7120, 3) := by decide +kernel
theorem dX7_farOff_4 : decode cX7_farOff 4 = .ok (.iload_n 1, 1) := by decide +kernel
theorem dX7_farOff_5 : decode cX7_farOff 5 = .ok (.iadd, 1) := by decide +kernel
theorem dX7_farOff_6 : decode cX7_farOff 6 = .ok (.invokevirtual 62, 3) := by decide +kernel
theorem dX7_farOff_9 : decode cX7_farOff 9 = .ok (.aload_n 0, 1) := by decide +kernel
theorem dX7_farOff_10 : decode cX7_farOff 10 = .ok (.iload_n 1, 1) := by decide +kernel
theorem dX7_farOff_11 : decode cX7_farOff 11 = .ok (.invokevirtual 95, 3) := by decide +kernel
theorem dX7_farOff_14 : decode cX7_farOff 14 = .ok (.isub, 1) := by decide +kernel
theorem dX7_farOff_15 : decode cX7_farOff 15 = .ok (.istore_n 2, 1) := by decide +kernel
theorem dX7_farOff_16 : decode cX7_farOff 16 = .ok (.iload_n 2, 1) := by decide +kernel
theorem dX7_farOff_17 : decode cX7_farOff 17 = .ok (.ifCond .ge 8, 3) := by decide +kernel
theorem dX7_farOff_20 : decode cX7_farOff 20 = .ok (.iload_n 2, 1) := by decide +kernel
theorem dX7_farOff_21 : decode cX7_farOff 21 = .ok (.ineg, 1) := by decide +kernel
theorem dX7_farOff_22 : decode cX7_farOff 22 = .ok (.goto 4, 3) := by decide +kernel
theorem dX7_farOff_25 : decode cX7_farOff 25 = .ok (.iload_n 2, 1) := by decide +kernel
theorem dX7_farOff_26 : decode cX7_farOff 26 = .ok (.istore_n 3, 1) := by decide +kernel
theorem dX7_farOff_27 : decode cX7_farOff 27 = .ok (.aload_n 0, 1) := by decide +kernel
theorem dX7_farOff_28 : decode cX7_farOff 28 = .ok (.iload_n 1, 1) := by decide +kernel
theorem dX7_farOff_29 : decode cX7_farOff 29 = .ok (.invokevirtual 98, 3) := by decide +kernel
theorem dX7_farOff_32 : decode cX7_farOff 32 = .ok (.iconst 0, 1) := by decide +kernel
theorem dX7_farOff_33 : decode cX7_farOff 33 = .ok (.istore 4, 2) := by decide +kernel
theorem dX7_farOff_35 : decode cX7_farOff 35 = .ok (.iload 4, 2) := by decide +kernel
theorem dX7_farOff_37 : decode cX7_farOff 37 = .ok (.bipush 48, 2) := by decide +kernel
theorem dX7_farOff_39 : decode cX7_farOff 39 = .ok (.if_icmp .ge 38, 3) := by decide +kernel
theorem dX7_farOff_42 : decode cX7_farOff 42 = .ok (.aload_n 0, 1) := by decide +kernel
theorem dX7_farOff_43 : decode cX7_farOff 43 = .ok (.iload_n 1, 1) := by decide +kernel
theorem dX7_farOff_44 : decode cX7_farOff 44 = .ok (.iload 4, 2) := by decide +kernel
theorem dX7_farOff_46 : decode cX7_farOff 46 = .ok (.invokevirtual 102, 3) := by decide +kernel
theorem dX7_farOff_49 : decode cX7_farOff 49 = .ok (.aload_n 0, 1) := by decide +kernel
theorem dX7_farOff_50 : decode cX7_farOff 50 = .ok (.getfield 26, 3) := by decide +kernel
theorem dX7_farOff_53 : decode cX7_farOff 53 = .ok (.iload 4, 2) := by decide +kernel
theorem dX7_farOff_55 : decode cX7_farOff 55 = .ok (.iaload, 1) := by decide +kernel
theorem dX7_farOff_56 : decode cX7_farOff 56 = .ok (.isub, 1) := by decide +kernel
theorem dX7_farOff_57 : decode cX7_farOff 57 = .ok (.istore_n 2, 1) := by decide +kernel
theorem dX7_farOff_58 : decode cX7_farOff 58 = .ok (.iload_n 3, 1) := by decide +kernel
theorem dX7_farOff_59 : decode cX7_farOff 59 = .ok (.iload_n 2, 1) := by decide +kernel
theorem dX7_farOff_60 : decode cX7_farOff 60 = .ok (.ifCond .ge 8, 3) := by decide +kernel
theorem dX7_farOff_63 : decode cX7_farOff 63 = .ok (.iload_n 2, 1) := by decide +kernel
theorem dX7_farOff_64 : decode cX7_farOff 64 = .ok (.ineg, 1) := by decide +kernel
theorem dX7_farOff_65 : decode cX7_farOff 65 = .ok (.goto 4, 3) := by decide +kernel
theorem dX7_farOff_68 : decode cX7_farOff 68 = .ok (.iload_n 2, 1) := by decide +kernel
theorem dX7_farOff_69 : decode cX7_farOff 69 = .ok (.iadd, 1) := by decide +kernel
theorem dX7_farOff_70 : decode cX7_farOff 70 = .ok (.istore_n 3, 1) := by decide +kernel
theorem dX7_farOff_71 : decode cX7_farOff 71 = .ok (.iinc 4 1, 3) := by decide +kernel
theorem dX7_farOff_74 : decode cX7_farOff 74 = .ok (.goto (-39), 3) := by decide +kernel
theorem dX7_farOff_77 : decode cX7_farOff 77 = .ok (.iload_n 3, 1) := by decide +kernel
theorem dX7_farOff_78 : decode cX7_farOff 78 = .ok (.ireturn, 1) := by decide +kernel
set_option maxRecDepth 20000 in
theorem ggX7_needs_X7_num : GoodIn wsX7_needs wsX7_num := goodIn_r _ [6, 7, 49, 50, 51, 52, 53, 54, 55, 56, 57, 58, 59] (by decide +kernel) (by decide +kernel)
set_option maxRecDepth 20000 in
theorem gX7_needs_X7_num : GoodIn wsX7_needs (wsV RX7 62 RX7 yX7_num wsX7_num) := goodIn_app (goodIn_of _ (by decide +kernel)) ggX7_needs_X7_num
set_option maxRecDepth 20000 in
theorem ggX7_needs_X7_calmShare : GoodIn wsX7_needs wsX7_calmShare := goodIn_r _ [11, 12, 13, 14, 5, 15, 16, 17, 18, 19, 20, 21, 22, 23, 24, 7, 25, 26, 27, 28, 29, 30, 31, 32, 33, 34, 35, 36, 2, 3, 4, 6, 49, 50, 51, 52, 53, 54, 55, 56, 57, 58, 59] (by decide +kernel) (by decide +kernel)
set_option maxRecDepth 20000 in
theorem gX7_needs_X7_calmShare : GoodIn wsX7_needs (wsV RX7 95 RX7 yX7_calmShare wsX7_calmShare) := goodIn_app (goodIn_of _ (by decide +kernel)) ggX7_needs_X7_calmShare
set_option maxRecDepth 20000 in
theorem ggX7_needs_X7_finds : GoodIn wsX7_needs wsX7_finds := goodIn_r _ [40, 1, 20, 16, 17, 18, 5, 19, 21, 22, 23, 24, 7, 25, 26, 27, 28, 29, 30, 31, 32, 41, 42, 43, 44, 49, 50, 51, 52, 53, 54, 55, 56, 57, 58, 59] (by decide +kernel) (by decide +kernel)
set_option maxRecDepth 20000 in
theorem gX7_needs_X7_finds : GoodIn wsX7_needs (wsV RX7 98 RX7 yX7_finds wsX7_finds) := goodIn_app (goodIn_of _ (by decide +kernel)) ggX7_needs_X7_finds
set_option maxRecDepth 20000 in
theorem ggX7_needs_X7_petalOf : GoodIn wsX7_needs wsX7_petalOf := goodIn_r _ [48, 2, 3, 4, 5, 6, 7, 49, 50, 51, 52, 53, 54, 55, 56, 57, 58, 59] (by decide +kernel) (by decide +kernel)
set_option maxRecDepth 20000 in
theorem gX7_needs_X7_petalOf : GoodIn wsX7_needs (wsV RX7 102 RX7 yX7_petalOf wsX7_petalOf) := goodIn_app (goodIn_of _ (by decide +kernel)) ggX7_needs_X7_petalOf
theorem dX7_needs_0 : decode cX7_needs 0 = .ok (.aload_n 0, 1) := by decide +kernel
theorem dX7_needs_1 : decode cX7_needs 1 = .ok (.sipush 7120, 3) := by decide +kernel
theorem dX7_needs_4 : decode cX7_needs 4 = .ok (.iload_n 1, 1) := by decide +kernel
theorem dX7_needs_5 : decode cX7_needs 5 = .ok (.iadd, 1) := by decide +kernel
theorem dX7_needs_6 : decode cX7_needs 6 = .ok (.invokevirtual 62, 3) := by decide +kernel
theorem dX7_needs_9 : decode cX7_needs 9 = .ok (.aload_n 0, 1) := by decide +kernel
theorem dX7_needs_10 : decode cX7_needs 10 = .ok (.iload_n 1, 1) := by decide +kernel
theorem dX7_needs_11 : decode cX7_needs 11 = .ok (.invokevirtual 95, 3) := by decide +kernel
theorem dX7_needs_14 : decode cX7_needs 14 = .ok (.if_icmp .le 7, 3) := by decide +kernel
theorem dX7_needs_17 : decode cX7_needs 17 = .ok (.iconst 1, 1) := by decide +kernel
theorem dX7_needs_18 : decode cX7_needs 18 = .ok (.goto 4, 3) := by decide +kernel
theorem dX7_needs_21 : decode cX7_needs 21 = .ok (.iconst 0, 1) := by decide +kernel
theorem dX7_needs_22 : decode cX7_needs 22 = .ok (.istore_n 2, 1) := by decide +kernel
theorem dX7_needs_23 : decode cX7_needs 23 = .ok (.aload_n 0, 1) := by decide +kernel
theorem dX7_needs_24 : decode cX7_needs 24 = .ok (.iload_n 1, 1) := by decide +kernel
theorem dX7_needs_25 : decode cX7_needs 25 = .ok (.invokevirtual 98, 3) := by decide +kernel
theorem dX7_needs_28 : decode cX7_needs 28 = .ok (.iconst 0, 1) := by decide +kernel
theorem dX7_needs_29 : decode cX7_needs 29 = .ok (.istore_n 3, 1) := by decide +kernel
theorem dX7_needs_30 : decode cX7_needs 30 = .ok (.iload_n 3, 1) := by decide +kernel
theorem dX7_needs_31 : decode cX7_needs 31 = .ok (.bipush 48, 2) := by decide +kernel
theorem dX7_needs_33 : decode cX7_needs 33 = .ok (.if_icmp .ge 32, 3) := by decide +kernel
theorem dX7_needs_36 : decode cX7_needs 36 = .ok (.iload_n 2, 1) := by decide +kernel
theorem dX7_needs_37 : decode cX7_needs 37 = .ok (.aload_n 0, 1) := by decide +kernel
theorem dX7_needs_38 : decode cX7_needs 38 = .ok (.iload_n 1, 1) := by decide +kernel
theorem dX7_needs_39 : decode cX7_needs 39 = .ok (.iload_n 3, 1) := by decide +kernel
theorem dX7_needs_40 : decode cX7_needs 40 = .ok (.invokevirtual 102, 3) := by decide +kernel
theorem dX7_needs_43 : decode cX7_needs 43 = .ok (.aload_n 0, 1) := by decide +kernel
theorem dX7_needs_44 : decode cX7_needs 44 = .ok (.getfield 26, 3) := by decide +kernel
theorem dX7_needs_47 : decode cX7_needs 47 = .ok (.iload_n 3, 1) := by decide +kernel
theorem dX7_needs_48 : decode cX7_needs 48 = .ok (.iaload, 1) := by decide +kernel
theorem dX7_needs_49 : decode cX7_needs 49 = .ok (.if_icmp .le 7, 3) := by decide +kernel
theorem dX7_needs_52 : decode cX7_needs 52 = .ok (.iconst 1, 1) := by decide +kernel
theorem dX7_needs_53 : decode cX7_needs 53 = .ok (.goto 4, 3) := by decide +kernel
theorem dX7_needs_56 : decode cX7_needs 56 = .ok (.iconst 0, 1) := by decide +kernel
theorem dX7_needs_57 : decode cX7_needs 57 = .ok (.iadd, 1) := by decide +kernel
theorem dX7_needs_58 : decode cX7_needs 58 = .ok (.istore_n 2, 1) := by decide +kernel
theorem dX7_needs_59 : decode cX7_needs 59 = .ok (.iinc 3 1, 3) := by decide +kernel
theorem dX7_needs_62 : decode cX7_needs 62 = .ok (.goto (-32), 3) := by decide +kernel
theorem dX7_needs_65 : decode cX7_needs 65 = .ok (.iload_n 2, 1) := by decide +kernel
theorem dX7_needs_66 : decode cX7_needs 66 = .ok (.ireturn, 1) := by decide +kernel
set_option maxRecDepth 20000 in
theorem ggX7_isTooMuch_X7_needs : GoodIn wsX7_isTooMuch wsX7_needs := goodIn_r _ [6, 7, 8, 9, 10, 5, 11, 1, 12, 13, 14, 15, 16, 17, 18, 19, 20, 21, 22, 23, 24, 25, 26, 27, 28, 29, 30, 31, 32, 33, 34, 35, 36, 37, 38, 39, 40, 41, 42, 43, 44, 45, 46, 47, 48, 49, 50, 51, 52, 53, 54, 55, 56, 57, 58, 59, 60, 61, 62, 63] (by decide +kernel) (by decide +kernel)
set_option maxRecDepth 20000 in
theorem gX7_isTooMuch_X7_needs : GoodIn wsX7_isTooMuch (wsV RX7 105 RX7 yX7_needs wsX7_needs) := goodIn_app (goodIn_of _ (by decide +kernel)) ggX7_isTooMuch_X7_needs
theorem dX7_isTooMuch_0 : decode cX7_isTooMuch 0 = .ok (.aload_n 0, 1) := by decide +kernel
theorem dX7_isTooMuch_1 : decode cX7_isTooMuch 1 = .ok (.iload_n 1, 1) := by decide +kernel
theorem dX7_isTooMuch_2 : decode cX7_isTooMuch 2 = .ok (.invokevirtual 105, 3) := by decide +kernel
theorem dX7_isTooMuch_5 : decode cX7_isTooMuch 5 = .ok (.istore_n 2, 1) := by decide +kernel
theorem dX7_isTooMuch_6 : decode cX7_isTooMuch 6 = .ok (.iload_n 2, 1) := by decide +kernel
theorem dX7_isTooMuch_7 : decode cX7_isTooMuch 7 = .ok (.ifCond .le 32, 3) := by decide +kernel
theorem dX7_isTooMuch_10 : decode cX7_isTooMuch 10 = .ok (.aload_n 0, 1) := by decide +kernel
theorem dX7_isTooMuch_11 : decode cX7_isTooMuch 11 = .ok (.getfield 7, 3) := by decide +kernel
theorem dX7_isTooMuch_14 : decode cX7_isTooMuch 14 = .ok (.sipush 7136, 3) := by decide +kernel
theorem dX7_isTooMuch_17 : decode cX7_isTooMuch 17 = .ok (.iload_n 1, 1) := by decide +kernel
theorem dX7_isTooMuch_18 : decode cX7_isTooMuch 18 = .ok (.iadd, 1) := by decide +kernel
theorem dX7_isTooMuch_19 : decode cX7_isTooMuch 19 = .ok (.laload, 1) := by decide +kernel
theorem dX7_isTooMuch_20 : decode cX7_isTooMuch 20 = .ok (.iload_n 2, 1) := by decide +kernel
theorem dX7_isTooMuch_21 : decode cX7_isTooMuch 21 = .ok (.i2l, 1) := by decide +kernel
theorem dX7_isTooMuch_22 : decode cX7_isTooMuch 22 = .ok (.ladd, 1) := by decide +kernel
theorem dX7_isTooMuch_23 : decode cX7_isTooMuch 23 = .ok (.aload_n 0, 1) := by decide +kernel
theorem dX7_isTooMuch_24 : decode cX7_isTooMuch 24 = .ok (.getfield 7, 3) := by decide +kernel
theorem dX7_isTooMuch_27 : decode cX7_isTooMuch 27 = .ok (.sipush 7154, 3) := by decide +kernel
theorem dX7_isTooMuch_30 : decode cX7_isTooMuch 30 = .ok (.laload, 1) := by decide +kernel
theorem dX7_isTooMuch_31 : decode cX7_isTooMuch 31 = .ok (.lcmp, 1) := by decide +kernel
theorem dX7_isTooMuch_32 : decode cX7_isTooMuch 32 = .ok (.ifCond .le 7, 3) := by decide +kernel
theorem dX7_isTooMuch_35 : decode cX7_isTooMuch 35 = .ok (.iconst 1, 1) := by decide +kernel
theorem dX7_isTooMuch_36 : decode cX7_isTooMuch 36 = .ok (.goto 4, 3) := by decide +kernel
theorem dX7_isTooMuch_39 : decode cX7_isTooMuch 39 = .ok (.iconst 0, 1) := by decide +kernel
theorem dX7_isTooMuch_40 : decode cX7_isTooMuch 40 = .ok (.ireturn, 1) := by decide +kernel
set_option maxRecDepth 20000 in
theorem ggX7_engrave_X7_roseOf : GoodIn wsX7_engrave wsX7_roseOf := goodIn_r _ [6, 7, 8, 5, 9, 10, 11, 12] (by decide +kernel) (by decide +kernel)
set_option maxRecDepth 20000 in
theorem gX7_engrave_X7_roseOf : GoodIn wsX7_engrave (va_wsS RX7 85 yX7_roseOf wsX7_roseOf) := goodIn_app (goodIn_of _ (by decide +kernel)) ggX7_engrave_X7_roseOf
set_option maxRecDepth 20000 in
theorem ggX7_engrave_X7_hoursOf : GoodIn wsX7_engrave wsX7_hoursOf := goodIn_r _ [16, 17, 18, 19, 5, 20, 21, 22, 23, 24, 25, 1, 26, 27, 28, 29, 30, 31, 32, 33, 34, 35, 36, 37, 38, 39, 40, 41, 76, 77, 78, 79, 80, 81, 82, 83, 84, 85, 86] (by decide +kernel) (by decide +kernel)
set_option maxRecDepth 20000 in
theorem gX7_engrave_X7_hoursOf : GoodIn wsX7_engrave (wsV RX7 71 RX7 yX7_hoursOf wsX7_hoursOf) := goodIn_app (goodIn_of _ (by decide +kernel)) ggX7_engrave_X7_hoursOf
set_option maxRecDepth 20000 in
theorem ggX7_engrave_X7_isTooMuch : GoodIn wsX7_engrave wsX7_isTooMuch := goodIn_r _ [45, 1, 46, 47, 48, 5, 49, 2, 38, 39, 40, 41, 50, 51, 52, 53, 13, 14, 15, 16, 17, 18, 19, 20, 21, 22, 23, 24, 25, 26, 27, 28, 29, 30, 31, 32, 33, 34, 35, 36, 37, 54, 55, 56, 57, 58, 59, 60, 61, 62, 63, 64, 65, 76, 77, 78, 79, 80, 81, 82, 83, 84, 85, 86] (by decide +kernel) (by decide +kernel)
set_option maxRecDepth 20000 in
theorem gX7_engrave_X7_isTooMuch : GoodIn wsX7_engrave (wsV RX7 108 RX7 yX7_isTooMuch wsX7_isTooMuch) := goodIn_app (goodIn_of _ (by decide +kernel)) ggX7_engrave_X7_isTooMuch
set_option maxRecDepth 20000 in
theorem ggX7_engrave_X7_differs : GoodIn wsX7_engrave wsX7_differs := goodIn_r _ [69, 2, 38, 39, 40, 5, 41, 1, 50, 51, 52, 53, 13, 14, 15, 16, 17, 18, 19, 20, 21, 22, 23, 24, 25, 26, 27, 28, 29, 30, 31, 32, 33, 34, 35, 36, 37, 54, 55, 56, 57, 58, 59, 60, 61, 62, 63, 64, 65, 76, 77, 78, 79, 80, 81, 82, 83, 84, 85, 86] (by decide +kernel) (by decide +kernel)
set_option maxRecDepth 20000 in
theorem gX7_engrave_X7_differs : GoodIn wsX7_engrave (wsV RX7 111 RX7 yX7_differs wsX7_differs) := goodIn_app (goodIn_of _ (by decide +kernel)) ggX7_engrave_X7_differs
set_option maxRecDepth 20000 in
theorem ggX7_engrave_X7_remembers : GoodIn wsX7_engrave wsX7_remembers := goodIn_r _ [73, 74, 75, 1, 76, 77, 78, 79, 80, 81, 82, 83, 84, 85, 86] (by decide +kernel) (by decide +kernel)
set_option maxRecDepth 20000 in
theorem gX7_engrave_X7_remembers : GoodIn wsX7_engrave (wsV RX7 88 RX7 yX7_remembers wsX7_remembers) := goodIn_app (goodIn_of _ (by decide +kernel)) ggX7_engrave_X7_remembers
set_option maxRecDepth 20000 in
theorem ggX7_engrave_X7_needs : GoodIn wsX7_engrave wsX7_needs := goodIn_r _ [49, 2, 38, 39, 40, 5, 41, 1, 50, 51, 52, 53, 13, 14, 15, 16, 17, 18, 19, 20, 21, 22, 23, 24, 25, 26, 27, 28, 29, 30, 31, 32, 33, 34, 35, 36, 37, 54, 55, 56, 57, 58, 59, 60, 61, 62, 63, 64, 65, 76, 77, 78, 79, 80, 81, 82, 83, 84, 85, 86] (by decide +kernel) (by decide +kernel)
set_option maxRecDepth 20000 in
theorem gX7_engrave_X7_needs : GoodIn wsX7_engrave (wsV RX7 105 RX7 yX7_needs wsX7_needs) := goodIn_app (goodIn_of _ (by decide +kernel)) ggX7_engrave_X7_needs
set_option maxRecDepth 20000 in
theorem ggX7_engrave_X7_calmShare : GoodIn wsX7_engrave wsX7_calmShare := goodIn_r _ [53, 13, 14, 15, 5, 16, 17, 18, 19, 20, 21, 22, 23, 24, 25, 1, 26, 27, 28, 29, 30, 31, 32, 33, 34, 35, 36, 37, 38, 39, 40, 41, 76, 77, 78, 79, 80, 81, 82, 83, 84, 85, 86] (by decide +kernel) (by decide +kernel)
set_option maxRecDepth 20000 in
theorem gX7_engrave_X7_calmShare : GoodIn wsX7_engrave (wsV RX7 95 RX7 yX7_calmShare wsX7_calmShare) := goodIn_app (goodIn_of _ (by decide +kernel)) ggX7_engrave_X7_calmShare
set_option maxRecDepth 20000 in
theorem ggX7_engrave_X7_finds : GoodIn wsX7_engrave wsX7_finds := goodIn_r _ [57, 2, 21, 17, 18, 19, 5, 20, 22, 23, 24, 25, 1, 26, 27, 28, 29, 30, 31, 32, 33, 58, 59, 60, 61, 76, 77, 78, 79, 80, 81, 82, 83, 84, 85, 86] (by decide +kernel) (by decide +kernel)
set_option maxRecDepth 20000 in
theorem gX7_engrave_X7_finds : GoodIn wsX7_engrave (wsV RX7 98 RX7 yX7_finds wsX7_finds) := goodIn_app (goodIn_of _ (by decide +kernel)) ggX7_engrave_X7_finds
theorem dX7_engrave_0 : decode cX7_engrave 0 = .ok (.iload_n 1, 1) := by decide +kernel
theorem dX7_engrave_1 : decode cX7_engrave 1 = .ok (.iload_n 2, 1) := by decide +kernel
theorem dX7_engrave_2 : decode cX7_engrave 2 = .ok (.invokestatic 85, 3) := by decide +kernel
theorem dX7_engrave_5 : decode cX7_engrave 5 = .ok (.istore_n 3, 1) := by decide +kernel
theorem dX7_engrave_6 : decode cX7_engrave 6 = .ok (.iload_n 3, 1) := by decide +kernel
theorem dX7_engrave_7 : decode cX7_engrave 7 = .ok (.ifCond .ge 5, 3) := by decide +kernel
theorem dX7_engrave_10 : decode cX7_engrave 10 = .ok (.iconst (-1), 1) := by decide +kernel
theorem dX7_engrave_11 : decode cX7_engrave 11 = .ok (.ireturn, 1) := by decide +kernel
theorem dX7_engrave_12 : decode cX7_engrave 12 = .ok (.aload_n 0, 1) := by decide +kernel
theorem dX7_engrave_13 : decode cX7_engrave 13 = .ok (.iload_n 3, 1) := by decide +kernel
theorem dX7_engrave_14 : decode cX7_engrave 14 = .ok (.invokevirtual 71, 3) := by decide +kernel
theorem dX7_engrave_17 : decode cX7_engrave 17 = .ok (.ifCond .eq 11, 3) := by decide +kernel
theorem dX7_engrave_20 : decode cX7_engrave 20 = .ok (.aload_n 0, 1) := by decide +kernel
theorem dX7_engrave_21 : decode cX7_engrave 21 = .ok (.iload_n 3, 1) := by decide +kernel
theorem dX7_engrave_22 : decode cX7_engrave 22 = .ok (.invokevirtual 108, 3) := by decide +kernel
theorem dX7_engrave_25 : decode cX7_engrave 25 = .ok (.ifCond .eq 6, 3) := by decide +kernel
theorem dX7_engrave_28 : decode cX7_engrave 28 = .ok (.bipush (-4), 2) := by decide +kernel
theorem dX7_engrave_30 : decode cX7_engrave 30 = .ok (.ireturn, 1) := by decide +kernel
theorem dX7_engrave_31 : decode cX7_engrave 31 = .ok (.aload_n 0, 1) := by decide +kernel
theorem dX7_engrave_32 : decode cX7_engrave 32 = .ok (.iload_n 3, 1) := by decide +kernel
theorem dX7_engrave_33 : decode cX7_engrave 33 = .ok (.invokevirtual 111, 3) := by decide +kernel
theorem dX7_engrave_36 : decode cX7_engrave 36 = .ok (.istore 4, 2) := by decide +kernel
theorem dX7_engrave_38 : decode cX7_engrave 38 = .ok (.iload 4, 2) := by decide +kernel
theorem dX7_engrave_40 : decode cX7_engrave 40 = .ok (.ifCond .ne 6, 3) := by decide +kernel
theorem dX7_engrave_43 : decode cX7_engrave 43 = .ok (.bipush (-5), 2) := by decide +kernel
theorem dX7_engrave_45 : decode cX7_engrave 45 = .ok (.ireturn, 1) := by decide +kernel
theorem dX7_engrave_46 : decode cX7_engrave 46 = .ok (.aload_n 0, 1) := by decide +kernel
theorem dX7_engrave_47 : decode cX7_engrave 47 = .ok (.invokevirtual 88, 3) := by decide +kernel
theorem dX7_engrave_50 : decode cX7_engrave 50 = .ok (.aload_n 0, 1) := by decide +kernel
theorem dX7_engrave_51 : decode cX7_engrave 51 = .ok (.getfield 7, 3) := by decide +kernel
theorem dX7_engrave_54 : decode cX7_engrave 54 = .ok (.sipush 7136, 3) := by decide +kernel
theorem dX7_engrave_57 : decode cX7_engrave 57 = .ok (.iload_n 3, 1) := by decide +kernel
theorem dX7_engrave_58 : decode cX7_engrave 58 = .ok (.iadd, 1) := by decide +kernel
theorem dX7_engrave_59 : decode cX7_engrave 59 = .ok (.dup2, 1) := by decide +kernel
theorem dX7_engrave_60 : decode cX7_engrave 60 = .ok (.laload, 1) := by decide +kernel
theorem dX7_engrave_61 : decode cX7_engrave 61 = .ok (.aload_n 0, 1) := by decide +kernel
theorem dX7_engrave_62 : decode cX7_engrave 62 = .ok (.iload_n 3, 1) := by decide +kernel
theorem dX7_engrave_63 : decode cX7_engrave 63 = .ok (.invokevirtual 105, 3) := by decide +kernel
theorem dX7_engrave_66 : decode cX7_engrave 66 = .ok (.i2l, 1) := by decide +kernel
theorem dX7_engrave_67 : decode cX7_engrave 67 = .ok (.ladd, 1) := by decide +kernel
theorem dX7_engrave_68 : decode cX7_engrave 68 = .ok (.lastore, 1) := by decide +kernel
theorem dX7_engrave_69 : decode cX7_engrave 69 = .ok (.aload_n 0, 1) := by decide +kernel
theorem dX7_engrave_70 : decode cX7_engrave 70 = .ok (.getfield 7, 3) := by decide +kernel
theorem dX7_engrave_73 : decode cX7_engrave 73 = .ok (.sipush 7120, 3) := by decide +kernel
theorem dX7_engrave_76 : decode cX7_engrave 76 = .ok (.iload_n 3, 1) := by decide +kernel
theorem dX7_engrave_77 : decode cX7_engrave 77 = .ok (.iadd, 1) := by decide +kernel
theorem dX7_engrave_78 : decode cX7_engrave 78 = .ok (.aload_n 0, 1) := by decide +kernel
theorem dX7_engrave_79 : decode cX7_engrave 79 = .ok (.iload_n 3, 1) := by decide +kernel
theorem dX7_engrave_80 : decode cX7_engrave 80 = .ok (.invokevirtual 95, 3) := by decide +kernel
theorem dX7_engrave_83 : decode cX7_engrave 83 = .ok (.i2l, 1) := by decide +kernel
theorem dX7_engrave_84 : decode cX7_engrave 84 = .ok (.lastore, 1) := by decide +kernel
theorem dX7_engrave_85 : decode cX7_engrave 85 = .ok (.aload_n 0, 1) := by decide +kernel
theorem dX7_engrave_86 : decode cX7_engrave 86 = .ok (.iload_n 3, 1) := by decide +kernel
theorem dX7_engrave_87 : decode cX7_engrave 87 = .ok (.invokevirtual 98, 3) := by decide +kernel
theorem dX7_engrave_90 : decode cX7_engrave 90 = .ok (.iconst 0, 1) := by decide +kernel
theorem dX7_engrave_91 : decode cX7_engrave 91 = .ok (.istore 5, 2) := by decide +kernel
theorem dX7_engrave_93 : decode cX7_engrave 93 = .ok (.iload 5, 2) := by decide +kernel
theorem dX7_engrave_95 : decode cX7_engrave 95 = .ok (.bipush 48, 2) := by decide +kernel
theorem dX7_engrave_97 : decode cX7_engrave 97 = .ok (.if_icmp .ge 33, 3) := by decide +kernel
theorem dX7_engrave_100 : decode cX7_engrave 100 = .ok (.aload_n 0, 1) := by decide +kernel
theorem dX7_engrave_101 : decode cX7_engrave 101 = .ok (.getfield 7, 3) := by decide +kernel
theorem dX7_engrave_104 : decode cX7_engrave 104 = .ok (.sipush 6352, 3) := by decide +kernel
theorem dX7_engrave_107 : decode cX7_engrave 107 = .ok (.bipush 48, 2) := by decide +kernel
theorem dX7_engrave_109 : decode cX7_engrave 109 = .ok (.iload_n 3, 1) := by decide +kernel
theorem dX7_engrave_110 : decode cX7_engrave 110 = .ok (.imul, 1) := by decide +kernel
theorem dX7_engrave_111 : decode cX7_engrave 111 = .ok (.iadd, 1) := by decide +kernel
theorem dX7_engrave_112 : decode cX7_engrave 112 = .ok (.iload 5, 2) := by decide +kernel
theorem dX7_engrave_114 : decode cX7_engrave 114 = .ok (.iadd, 1) := by decide +kernel
theorem dX7_engrave_115 : decode cX7_engrave 115 = .ok (.aload_n 0, 1) := by decide +kernel
theorem dX7_engrave_116 : decode cX7_engrave 116 = .ok (.getfield 26, 3) := by decide +kernel
theorem dX7_engrave_119 : decode cX7_engrave 119 = .ok (.iload 5, 2) := by decide +kernel
theorem dX7_engrave_121 : decode cX7_engrave 121 = .ok (.iaload, 1) := by decide +kernel
theorem dX7_engrave_122 : decode cX7_engrave 122 = .ok (.i2l, 1) := by decide +kernel
theorem dX7_engrave_123 : decode cX7_engrave 123 = .ok (.lastore, 1) := by decide +kernel
theorem dX7_engrave_124 : decode cX7_engrave 124 = .ok (.iinc 5 1, 3) := by decide +kernel
theorem dX7_engrave_127 : decode cX7_engrave 127 = .ok (.goto (-34), 3) := by decide +kernel
theorem dX7_engrave_130 : decode cX7_engrave 130 = .ok (.aload_n 0, 1) := by decide +kernel
theorem dX7_engrave_131 : decode cX7_engrave 131 = .ok (.getfield 7, 3) := by decide +kernel
theorem dX7_engrave_134 : decode cX7_engrave 134 = .ok (.sipush 7155, 3) := by decide +kernel
theorem dX7_engrave_137 : decode cX7_engrave 137 = .ok (.dup2, 1) := by decide +kernel
theorem dX7_engrave_138 : decode cX7_engrave 138 = .ok (.laload, 1) := by decide +kernel
theorem dX7_engrave_139 : decode cX7_engrave 139 = .ok (.lconst 1, 1) := by decide +kernel
theorem dX7_engrave_140 : decode cX7_engrave 140 = .ok (.ladd, 1) := by decide +kernel
theorem dX7_engrave_141 : decode cX7_engrave 141 = .ok (.lastore, 1) := by decide +kernel
theorem dX7_engrave_142 : decode cX7_engrave 142 = .ok (.iload 4, 2) := by decide +kernel
theorem dX7_engrave_144 : decode cX7_engrave 144 = .ok (.ireturn, 1) := by decide +kernel
set_option maxRecDepth 20000 in
theorem ggX7_petals_X7_petalOf : GoodIn wsX7_petals wsX7_petalOf := goodIn_r _ [5, 6, 7, 8, 4, 9, 10, 11, 12, 13, 14, 15, 16, 17, 18, 19, 20, 21] (by decide +kernel) (by decide +kernel)
set_option maxRecDepth 20000 in
theorem gX7_petals_X7_petalOf : GoodIn wsX7_petals (wsV RX7 102 RX7 yX7_petalOf wsX7_petalOf) := goodIn_app (goodIn_of _ (by decide +kernel)) ggX7_petals_X7_petalOf
theorem dX7_petals_0 : decode cX7_petals 0 = .ok (.iconst 0, 1) := by decide +kernel
theorem dX7_petals_1 : decode cX7_petals 1 = .ok (.istore_n 2, 1) := by decide +kernel
theorem dX7_petals_2 : decode cX7_petals 2 = .ok (.iconst 0, 1) := by decide +kernel
theorem dX7_petals_3 : decode cX7_petals 3 = .ok (.istore_n 3, 1) := by decide +kernel
theorem dX7_petals_4 : decode cX7_petals 4 = .ok (.iload_n 3, 1) := by decide +kernel
theorem dX7_petals_5 : decode cX7_petals 5 = .ok (.bipush 48, 2) := by decide +kernel
theorem dX7_petals_7 : decode cX7_petals 7 = .ok (.if_icmp .ge 26, 3) := by decide +kernel
theorem dX7_petals_10 : decode cX7_petals 10 = .ok (.iload_n 2, 1) := by decide +kernel
theorem dX7_petals_11 : decode cX7_petals 11 = .ok (.aload_n 0, 1) := by decide +kernel
theorem dX7_petals_12 : decode cX7_petals 12 = .ok (.iload_n 1, 1) := by decide +kernel
theorem dX7_petals_13 : decode cX7_petals 13 = .ok (.iload_n 3, 1) := by decide +kernel
theorem dX7_petals_14 : decode cX7_petals 14 = .ok (.invokevirtual 102, 3) := by decide +kernel
theorem dX7_petals_17 : decode cX7_petals 17 = .ok (.ifCond .le 7, 3) := by decide +kernel
theorem dX7_petals_20 : decode cX7_petals 20 = .ok (.iconst 1, 1) := by decide +kernel
theorem dX7_petals_21 : decode cX7_petals 21 = .ok (.goto 4, 3) := by decide +kernel
theorem dX7_petals_24 : decode cX7_petals 24 = .ok (.iconst 0, 1) := by decide +kernel
theorem dX7_petals_25 : decode cX7_petals 25 = .ok (.iadd, 1) := by decide +kernel
theorem dX7_petals_26 : decode cX7_petals 26 = .ok (.istore_n 2, 1) := by decide +kernel
theorem dX7_petals_27 : decode cX7_petals 27 = .ok (.iinc 3 1, 3) := by decide +kernel
theorem dX7_petals_30 : decode cX7_petals 30 = .ok (.goto (-26), 3) := by decide +kernel
theorem dX7_petals_33 : decode cX7_petals 33 = .ok (.iload_n 2, 1) := by decide +kernel
theorem dX7_petals_34 : decode cX7_petals 34 = .ok (.ireturn, 1) := by decide +kernel
set_option maxRecDepth 20000 in
theorem ggX7_renew_X7_roseOf : GoodIn wsX7_renew wsX7_roseOf := goodIn_r _ [5, 6, 7, 4, 8, 9, 10, 11] (by decide +kernel) (by decide +kernel)
set_option maxRecDepth 20000 in
theorem gX7_renew_X7_roseOf : GoodIn wsX7_renew (va_wsS RX7 85 yX7_roseOf wsX7_roseOf) := goodIn_app (goodIn_of _ (by decide +kernel)) ggX7_renew_X7_roseOf
set_option maxRecDepth 20000 in
theorem ggX7_renew_X7_num : GoodIn wsX7_renew wsX7_num := goodIn_r _ [15, 1, 30, 31, 32, 33, 34, 35, 36, 37, 38, 39, 40] (by decide +kernel) (by decide +kernel)
set_option maxRecDepth 20000 in
theorem gX7_renew_X7_num : GoodIn wsX7_renew (wsV RX7 62 RX7 yX7_num wsX7_num) := goodIn_app (goodIn_of _ (by decide +kernel)) ggX7_renew_X7_num
set_option maxRecDepth 20000 in
theorem ggX7_renew_X7_petals : GoodIn wsX7_renew wsX7_petals := goodIn_r _ [19, 20, 21, 22, 4, 23, 12, 13, 14, 15, 1, 30, 31, 32, 33, 34, 35, 36, 37, 38, 39, 40] (by decide +kernel) (by decide +kernel)
set_option maxRecDepth 20000 in
theorem gX7_renew_X7_petals : GoodIn wsX7_renew (wsV RX7 114 RX7 yX7_petals wsX7_petals) := goodIn_app (goodIn_of _ (by decide +kernel)) ggX7_renew_X7_petals
set_option maxRecDepth 20000 in
theorem ggX7_renew_X7_remembers : GoodIn wsX7_renew wsX7_remembers := goodIn_r _ [27, 28, 29, 1, 30, 31, 32, 33, 34, 35, 36, 37, 38, 39, 40] (by decide +kernel) (by decide +kernel)
set_option maxRecDepth 20000 in
theorem gX7_renew_X7_remembers : GoodIn wsX7_renew (wsV RX7 88 RX7 yX7_remembers wsX7_remembers) := goodIn_app (goodIn_of _ (by decide +kernel)) ggX7_renew_X7_remembers
theorem dX7_renew_0 : decode cX7_renew 0 = .ok (.iload_n 1, 1) := by decide +kernel
theorem dX7_renew_1 : decode cX7_renew 1 = .ok (.iload_n 2, 1) := by decide +kernel
theorem dX7_renew_2 : decode cX7_renew 2 = .ok (.invokestatic 85, 3) := by decide +kernel
theorem dX7_renew_5 : decode cX7_renew 5 = .ok (.istore_n 3, 1) := by decide +kernel
theorem dX7_renew_6 : decode cX7_renew 6 = .ok (.iload_n 3, 1) := by decide +kernel
theorem dX7_renew_7 : decode cX7_renew 7 = .ok (.ifCond .ge 5, 3) := by decide +kernel
theorem dX7_renew_10 : decode cX7_renew 10 = .ok (.iconst (-1), 1) := by decide +kernel
theorem dX7_renew_11 : decode cX7_renew 11 = .ok (.ireturn, 1) := by decide +kernel
theorem dX7_renew_12 : decode cX7_renew 12 = .ok (.aload_n 0, 1) := by decide +kernel
theorem dX7_renew_13 : decode cX7_renew 13 = .ok (.sipush 7136, 3) := by decide +kernel
theorem dX7_renew_16 : decode cX7_renew 16 = .ok (.iload_n 3, 1) := by decide +kernel
theorem dX7_renew_17 : decode cX7_renew 17 = .ok (.iadd, 1) := by decide +kernel
theorem dX7_renew_18 : decode cX7_renew 18 = .ok (.invokevirtual 62, 3) := by decide +kernel
theorem dX7_renew_21 : decode cX7_renew 21 = .ok (.istore 4, 2) := by decide +kernel
theorem dX7_renew_23 : decode cX7_renew 23 = .ok (.iload 4, 2) := by decide +kernel
theorem dX7_renew_25 : decode cX7_renew 25 = .ok (.ifCond .ne 29, 3) := by decide +kernel
theorem dX7_renew_28 : decode cX7_renew 28 = .ok (.aload_n 0, 1) := by decide +kernel
theorem dX7_renew_29 : decode cX7_renew 29 = .ok (.getfield 7, 3) := by decide +kernel
theorem dX7_renew_32 : decode cX7_renew 32 = .ok (.sipush 7120, 3) := by decide +kernel
theorem dX7_renew_35 : decode cX7_renew 35 = .ok (.iload_n 3, 1) := by decide +kernel
theorem dX7_renew_36 : decode cX7_renew 36 = .ok (.iadd, 1) := by decide +kernel
theorem dX7_renew_37 : decode cX7_renew 37 = .ok (.laload, 1) := by decide +kernel
theorem dX7_renew_38 : decode cX7_renew 38 = .ok (.lconst 0, 1) := by decide +kernel
theorem dX7_renew_39 : decode cX7_renew 39 = .ok (.lcmp, 1) := by decide +kernel
theorem dX7_renew_40 : decode cX7_renew 40 = .ok (.ifCond .ne 14, 3) := by decide +kernel
theorem dX7_renew_43 : decode cX7_renew 43 = .ok (.aload_n 0, 1) := by decide +kernel
theorem dX7_renew_44 : decode cX7_renew 44 = .ok (.iload_n 3, 1) := by decide +kernel
theorem dX7_renew_45 : decode cX7_renew 45 = .ok (.invokevirtual 114, 3) := by decide +kernel
theorem dX7_renew_48 : decode cX7_renew 48 = .ok (.ifCond .ne 6, 3) := by decide +kernel
theorem dX7_renew_51 : decode cX7_renew 51 = .ok (.bipush (-5), 2) := by decide +kernel
theorem dX7_renew_53 : decode cX7_renew 53 = .ok (.ireturn, 1) := by decide +kernel
theorem dX7_renew_54 : decode cX7_renew 54 = .ok (.aload_n 0, 1) := by decide +kernel
theorem dX7_renew_55 : decode cX7_renew 55 = .ok (.invokevirtual 88, 3) := by decide +kernel
theorem dX7_renew_58 : decode cX7_renew 58 = .ok (.aload_n 0, 1) := by decide +kernel
theorem dX7_renew_59 : decode cX7_renew 59 = .ok (.getfield 7, 3) := by decide +kernel
theorem dX7_renew_62 : decode cX7_renew 62 = .ok (.sipush 7136, 3) := by decide +kernel
theorem dX7_renew_65 : decode cX7_renew 65 = .ok (.iload_n 3, 1) := by decide +kernel
theorem dX7_renew_66 : decode cX7_renew 66 = .ok (.iadd, 1) := by decide +kernel
theorem dX7_renew_67 : decode cX7_renew 67 = .ok (.lconst 0, 1) := by decide +kernel
theorem dX7_renew_68 : decode cX7_renew 68 = .ok (.lastore, 1) := by decide +kernel
theorem dX7_renew_69 : decode cX7_renew 69 = .ok (.aload_n 0, 1) := by decide +kernel
theorem dX7_renew_70 : decode cX7_renew 70 = .ok (.getfield 7, 3) := by decide +kernel
theorem dX7_renew_73 : decode cX7_renew 73 = .ok (.sipush 7120, 3) := by decide +kernel
theorem dX7_renew_76 : decode cX7_renew 76 = .ok (.iload_n 3, 1) := by decide +kernel
theorem dX7_renew_77 : decode cX7_renew 77 = .ok (.iadd, 1) := by decide +kernel
theorem dX7_renew_78 : decode cX7_renew 78 = .ok (.lconst 0, 1) := by decide +kernel
theorem dX7_renew_79 : decode cX7_renew 79 = .ok (.lastore, 1) := by decide +kernel
theorem dX7_renew_80 : decode cX7_renew 80 = .ok (.iconst 0, 1) := by decide +kernel
theorem dX7_renew_81 : decode cX7_renew 81 = .ok (.istore 5, 2) := by decide +kernel
theorem dX7_renew_83 : decode cX7_renew 83 = .ok (.iload 5, 2) := by decide +kernel
theorem dX7_renew_85 : decode cX7_renew 85 = .ok (.bipush 48, 2) := by decide +kernel
theorem dX7_renew_87 : decode cX7_renew 87 = .ok (.if_icmp .ge 26, 3) := by decide +kernel
theorem dX7_renew_90 : decode cX7_renew 90 = .ok (.aload_n 0, 1) := by decide +kernel
theorem dX7_renew_91 : decode cX7_renew 91 = .ok (.getfield 7, 3) := by decide +kernel
theorem dX7_renew_94 : decode cX7_renew 94 = .ok (.sipush 6352, 3) := by decide +kernel
theorem dX7_renew_97 : decode cX7_renew 97 = .ok (.bipush 48, 2) := by decide +kernel
theorem dX7_renew_99 : decode cX7_renew 99 = .ok (.iload_n 3, 1) := by decide +kernel
theorem dX7_renew_100 : decode cX7_renew 100 = .ok (.imul, 1) := by decide +kernel
theorem dX7_renew_101 : decode cX7_renew 101 = .ok (.iadd, 1) := by decide +kernel
theorem dX7_renew_102 : decode cX7_renew 102 = .ok (.iload 5, 2) := by decide +kernel
theorem dX7_renew_104 : decode cX7_renew 104 = .ok (.iadd, 1) := by decide +kernel
theorem dX7_renew_105 : decode cX7_renew 105 = .ok (.lconst 0, 1) := by decide +kernel
theorem dX7_renew_106 : decode cX7_renew 106 = .ok (.lastore, 1) := by decide +kernel
theorem dX7_renew_107 : decode cX7_renew 107 = .ok (.iinc 5 1, 3) := by decide +kernel
theorem dX7_renew_110 : decode cX7_renew 110 = .ok (.goto (-27), 3) := by decide +kernel
theorem dX7_renew_113 : decode cX7_renew 113 = .ok (.aload_n 0, 1) := by decide +kernel
theorem dX7_renew_114 : decode cX7_renew 114 = .ok (.getfield 7, 3) := by decide +kernel
theorem dX7_renew_117 : decode cX7_renew 117 = .ok (.sipush 7156, 3) := by decide +kernel
theorem dX7_renew_120 : decode cX7_renew 120 = .ok (.dup2, 1) := by decide +kernel
theorem dX7_renew_121 : decode cX7_renew 121 = .ok (.laload, 1) := by decide +kernel
theorem dX7_renew_122 : decode cX7_renew 122 = .ok (.lconst 1, 1) := by decide +kernel
theorem dX7_renew_123 : decode cX7_renew 123 = .ok (.ladd, 1) := by decide +kernel
theorem dX7_renew_124 : decode cX7_renew 124 = .ok (.lastore, 1) := by decide +kernel
theorem dX7_renew_125 : decode cX7_renew 125 = .ok (.iload 4, 2) := by decide +kernel
theorem dX7_renew_127 : decode cX7_renew 127 = .ok (.ireturn, 1) := by decide +kernel
theorem dX7_type_0 : decode cX7_type 0 = .ok (.aload_n 0, 1) := by decide +kernel
theorem dX7_type_1 : decode cX7_type 1 = .ok (.getfield 117, 3) := by decide +kernel
theorem dX7_type_4 : decode cX7_type 4 = .ok (.bipush 80, 2) := by decide +kernel
theorem dX7_type_6 : decode cX7_type 6 = .ok (.if_icmp .ne 6, 3) := by decide +kernel
theorem dX7_type_9 : decode cX7_type 9 = .ok (.bipush (-3), 2) := by decide +kernel
theorem dX7_type_11 : decode cX7_type 11 = .ok (.ireturn, 1) := by decide +kernel
theorem dX7_type_12 : decode cX7_type 12 = .ok (.aload_n 0, 1) := by decide +kernel
theorem dX7_type_13 : decode cX7_type 13 = .ok (.getfield 19, 3) := by decide +kernel
theorem dX7_type_16 : decode cX7_type 16 = .ok (.aload_n 0, 1) := by decide +kernel
theorem dX7_type_17 : decode cX7_type 17 = .ok (.getfield 117, 3) := by decide +kernel
theorem dX7_type_20 : decode cX7_type 20 = .ok (.iload_n 1, 1) := by decide +kernel
theorem dX7_type_21 : decode cX7_type 21 = .ok (.iastore, 1) := by decide +kernel
theorem dX7_type_22 : decode cX7_type 22 = .ok (.aload_n 0, 1) := by decide +kernel
theorem dX7_type_23 : decode cX7_type 23 = .ok (.dup, 1) := by decide +kernel
theorem dX7_type_24 : decode cX7_type 24 = .ok (.getfield 117, 3) := by decide +kernel
theorem dX7_type_27 : decode cX7_type 27 = .ok (.iconst 1, 1) := by decide +kernel
theorem dX7_type_28 : decode cX7_type 28 = .ok (.iadd, 1) := by decide +kernel
theorem dX7_type_29 : decode cX7_type 29 = .ok (.putfield 117, 3) := by decide +kernel
theorem dX7_type_32 : decode cX7_type 32 = .ok (.aload_n 0, 1) := by decide +kernel
theorem dX7_type_33 : decode cX7_type 33 = .ok (.getfield 117, 3) := by decide +kernel
theorem dX7_type_36 : decode cX7_type 36 = .ok (.ireturn, 1) := by decide +kernel
theorem dX7_clearText_0 : decode cX7_clearText 0 = .ok (.aload_n 0, 1) := by decide +kernel
theorem dX7_clearText_1 : decode cX7_clearText 1 = .ok (.getfield 117, 3) := by decide +kernel
theorem dX7_clearText_4 : decode cX7_clearText 4 = .ok (.istore_n 1, 1) := by decide +kernel
theorem dX7_clearText_5 : decode cX7_clearText 5 = .ok (.aload_n 0, 1) := by decide +kernel
theorem dX7_clearText_6 : decode cX7_clearText 6 = .ok (.iconst 0, 1) := by decide +kernel
theorem dX7_clearText_7 : decode cX7_clearText 7 = .ok (.putfield 117, 3) := by decide +kernel
theorem dX7_clearText_10 : decode cX7_clearText 10 = .ok (.iload_n 1, 1) := by decide +kernel
theorem dX7_clearText_11 : decode cX7_clearText 11 = .ok (.ireturn, 1) := by decide +kernel
theorem dX7_sign_0 : decode cX7_sign 0 = .ok (.iload_n 1, 1) := by decide +kernel
theorem dX7_sign_1 : decode cX7_sign 1 = .ok (.aload_n 0, 1) := by decide +kernel
theorem dX7_sign_2 : decode cX7_sign 2 = .ok (.getfield 117, 3) := by decide +kernel
theorem dX7_sign_5 : decode cX7_sign 5 = .ok (.if_icmp .ge 12, 3) := by decide +kernel
theorem dX7_sign_8 : decode cX7_sign 8 = .ok (.aload_n 0, 1) := by decide +kernel
theorem dX7_sign_9 : decode cX7_sign 9 = .ok (.getfield 19, 3) := by decide +kernel
theorem dX7_sign_12 : decode cX7_sign 12 = .ok (.iload_n 1, 1) := by decide +kernel
theorem dX7_sign_13 : decode cX7_sign 13 = .ok (.iaload, 1) := by decide +kernel
theorem dX7_sign_14 : decode cX7_sign 14 = .ok (.goto 4, 3) := by decide +kernel
theorem dX7_sign_17 : decode cX7_sign 17 = .ok (.iconst (-1), 1) := by decide +kernel
theorem dX7_sign_18 : decode cX7_sign 18 = .ok (.ireturn, 1) := by decide +kernel
set_option maxRecDepth 20000 in
theorem ggX7_digit_X7_sign : GoodIn wsX7_digit wsX7_sign := goodIn_r _ [5, 6, 7, 11, 12, 13, 14, 15, 16, 17, 18, 19, 20, 21] (by decide +kernel) (by decide +kernel)
set_option maxRecDepth 20000 in
theorem gX7_digit_X7_sign : GoodIn wsX7_digit (wsV RX7 120 RX7 yX7_sign wsX7_sign) := goodIn_app (goodIn_of _ (by decide +kernel)) ggX7_digit_X7_sign
set_option maxRecDepth 20000 in
theorem ggX7_digit_X7_in : GoodIn wsX7_digit wsX7_in := goodIn_r _ [10] (by decide +kernel) (by decide +kernel)
set_option maxRecDepth 20000 in
theorem gX7_digit_X7_in : GoodIn wsX7_digit (va_wsS RX7 41 yX7_in wsX7_in) := goodIn_app (goodIn_of _ (by decide +kernel)) ggX7_digit_X7_in
theorem dX7_digit_0 : decode cX7_digit 0 = .ok (.aload_n 0, 1) := by decide +kernel
theorem dX7_digit_1 : decode cX7_digit 1 = .ok (.iload_n 1, 1) := by decide +kernel
theorem dX7_digit_2 : decode cX7_digit 2 = .ok (.invokevirtual 120, 3) := by decide +kernel
theorem dX7_digit_5 : decode cX7_digit 5 = .ok (.bipush 48, 2) := by decide +kernel
theorem dX7_digit_7 : decode cX7_digit 7 = .ok (.bipush 57, 2) := by decide +kernel
theorem dX7_digit_9 : decode cX7_digit 9 = .ok (.invokestatic 41, 3) := by decide +kernel
theorem dX7_digit_12 : decode cX7_digit 12 = .ok (.ifCond .eq 14, 3) := by decide +kernel
theorem dX7_digit_15 : decode cX7_digit 15 = .ok (.aload_n 0, 1) := by decide +kernel
theorem dX7_digit_16 : decode cX7_digit 16 = .ok (.iload_n 1, 1) := by decide +kernel
theorem dX7_digit_17 : decode cX7_digit 17 = .ok (.invokevirtual 120, 3) := by decide +kernel
theorem dX7_digit_20 : decode cX7_digit 20 = .ok (.bipush 48, 2) := by decide +kernel
theorem dX7_digit_22 : decode cX7_digit 22 = .ok (.isub, 1) := by decide +kernel
theorem dX7_digit_23 : decode cX7_digit 23 = .ok (.goto 4, 3) := by decide +kernel
theorem dX7_digit_26 : decode cX7_digit 26 = .ok (.iconst (-1), 1) := by decide +kernel
theorem dX7_digit_27 : decode cX7_digit 27 = .ok (.ireturn, 1) := by decide +kernel
set_option maxRecDepth 20000 in
theorem ggX7_numberEnd_X7_digit : GoodIn wsX7_numberEnd wsX7_digit := goodIn_r _ [5, 6, 7, 8, 4, 9, 10, 11, 12, 13, 14, 15, 16, 17, 18, 19, 20, 21, 22, 23, 24, 25] (by decide +kernel) (by decide +kernel)
set_option maxRecDepth 20000 in
theorem gX7_numberEnd_X7_digit : GoodIn wsX7_numberEnd (wsV RX7 123 RX7 yX7_digit wsX7_digit) := goodIn_app (goodIn_of _ (by decide +kernel)) ggX7_numberEnd_X7_digit
theorem dX7_numberEnd_0 : decode cX7_numberEnd 0 = .ok (.iload_n 1, 1) := by decide +kernel
theorem dX7_numberEnd_1 : decode cX7_numberEnd 1 = .ok (.ifCond .ge 5, 3) := by decide +kernel
theorem dX7_numberEnd_4 : decode cX7_numberEnd 4 = .ok (.iload_n 1, 1) := by decide +kernel
theorem dX7_numberEnd_5 : decode cX7_numberEnd 5 = .ok (.ireturn, 1) := by decide +kernel
theorem dX7_numberEnd_6 : decode cX7_numberEnd 6 = .ok (.aload_n 0, 1) := by decide +kernel
theorem dX7_numberEnd_7 : decode cX7_numberEnd 7 = .ok (.iload_n 1, 1) := by decide +kernel
theorem dX7_numberEnd_8 : decode cX7_numberEnd 8 = .ok (.invokevirtual 123, 3) := by decide +kernel
theorem dX7_numberEnd_11 : decode cX7_numberEnd 11 = .ok (.iload_n 2, 1) := by decide +kernel
theorem dX7_numberEnd_12 : decode cX7_numberEnd 12 = .ok (.if_icmp .ge 12, 3) := by decide +kernel
theorem dX7_numberEnd_15 : decode cX7_numberEnd 15 = .ok (.aload_n 0, 1) := by decide +kernel
theorem dX7_numberEnd_16 : decode cX7_numberEnd 16 = .ok (.iload_n 1, 1) := by decide +kernel
theorem dX7_numberEnd_17 : decode cX7_numberEnd 17 = .ok (.invokevirtual 123, 3) := by decide +kernel
theorem dX7_numberEnd_20 : decode cX7_numberEnd 20 = .ok (.iconst 1, 1) := by decide +kernel
theorem dX7_numberEnd_21 : decode cX7_numberEnd 21 = .ok (.if_icmp .lt 12, 3) := by decide +kernel
theorem dX7_numberEnd_24 : decode cX7_numberEnd 24 = .ok (.aload_n 0, 1) := by decide +kernel
theorem dX7_numberEnd_25 : decode cX7_numberEnd 25 = .ok (.iload_n 1, 1) := by decide +kernel
theorem dX7_numberEnd_26 : decode cX7_numberEnd 26 = .ok (.invokevirtual 123, 3) := by decide +kernel
theorem dX7_numberEnd_29 : decode cX7_numberEnd 29 = .ok (.iload_n 3, 1) := by decide +kernel
theorem dX7_numberEnd_30 : decode cX7_numberEnd 30 = .ok (.if_icmp .le 7, 3) := by decide +kernel
theorem dX7_numberEnd_33 : decode cX7_numberEnd 33 = .ok (.iconst (-1), 1) := by decide +kernel
theorem dX7_numberEnd_34 : decode cX7_numberEnd 34 = .ok (.iload_n 1, 1) := by decide +kernel
theorem dX7_numberEnd_35 : decode cX7_numberEnd 35 = .ok (.isub, 1) := by decide +kernel
theorem dX7_numberEnd_36 : decode cX7_numberEnd 36 = .ok (.ireturn, 1) := by decide +kernel
theorem dX7_numberEnd_37 : decode cX7_numberEnd 37 = .ok (.aload_n 0, 1) := by decide +kernel
theorem dX7_numberEnd_38 : decode cX7_numberEnd 38 = .ok (.iload_n 1, 1) := by decide +kernel
theorem dX7_numberEnd_39 : decode cX7_numberEnd 39 = .ok (.invokevirtual 123, 3) := by decide +kernel
theorem dX7_numberEnd_42 : decode cX7_numberEnd 42 = .ok (.ifCond .le 37, 3) := by decide +kernel
theorem dX7_numberEnd_45 : decode cX7_numberEnd 45 = .ok (.aload_n 0, 1) := by decide +kernel
theorem dX7_numberEnd_46 : decode cX7_numberEnd 46 = .ok (.iload_n 1, 1) := by decide +kernel
theorem dX7_numberEnd_47 : decode cX7_numberEnd 47 = .ok (.iconst 1, 1) := by decide +kernel
theorem dX7_numberEnd_48 : decode cX7_numberEnd 48 = .ok (.iadd, 1) := by decide +kernel
theorem dX7_numberEnd_49 : decode cX7_numberEnd 49 = .ok (.invokevirtual 123, 3) := by decide +kernel
theorem dX7_numberEnd_52 : decode cX7_numberEnd 52 = .ok (.ifCond .lt 27, 3) := by decide +kernel
theorem dX7_numberEnd_55 : decode cX7_numberEnd 55 = .ok (.bipush 10, 2) := by decide +kernel
theorem dX7_numberEnd_57 : decode cX7_numberEnd 57 = .ok (.aload_n 0, 1) := by decide +kernel
theorem dX7_numberEnd_58 : decode cX7_numberEnd 58 = .ok (.iload_n 1, 1) := by decide +kernel
theorem dX7_numberEnd_59 : decode cX7_numberEnd 59 = .ok (.invokevirtual 123, 3) := by decide +kernel
theorem dX7_numberEnd_62 : decode cX7_numberEnd 62 = .ok (.imul, 1) := by decide +kernel
theorem dX7_numberEnd_63 : decode cX7_numberEnd 63 = .ok (.aload_n 0, 1) := by decide +kernel
theorem dX7_numberEnd_64 : decode cX7_numberEnd 64 = .ok (.iload_n 1, 1) := by decide +kernel
theorem dX7_numberEnd_65 : decode cX7_numberEnd 65 = .ok (.iconst 1, 1) := by decide +kernel
theorem dX7_numberEnd_66 : decode cX7_numberEnd 66 = .ok (.iadd, 1) := by decide +kernel
theorem dX7_numberEnd_67 : decode cX7_numberEnd 67 = .ok (.invokevirtual 123, 3) := by decide +kernel
theorem dX7_numberEnd_70 : decode cX7_numberEnd 70 = .ok (.iadd, 1) := by decide +kernel
theorem dX7_numberEnd_71 : decode cX7_numberEnd 71 = .ok (.iload_n 3, 1) := by decide +kernel
theorem dX7_numberEnd_72 : decode cX7_numberEnd 72 = .ok (.if_icmp .gt 7, 3) := by decide +kernel
theorem dX7_numberEnd_75 : decode cX7_numberEnd 75 = .ok (.iconst 1, 1) := by decide +kernel
theorem dX7_numberEnd_76 : decode cX7_numberEnd 76 = .ok (.goto 4, 3) := by decide +kernel
theorem dX7_numberEnd_79 : decode cX7_numberEnd 79 = .ok (.iconst 0, 1) := by decide +kernel
theorem dX7_numberEnd_80 : decode cX7_numberEnd 80 = .ok (.istore 4, 2) := by decide +kernel
theorem dX7_numberEnd_82 : decode cX7_numberEnd 82 = .ok (.iload 4, 2) := by decide +kernel
theorem dX7_numberEnd_84 : decode cX7_numberEnd 84 = .ok (.ifCond .eq 9, 3) := by decide +kernel
theorem dX7_numberEnd_87 : decode cX7_numberEnd 87 = .ok (.iload_n 1, 1) := by decide +kernel
theorem dX7_numberEnd_88 : decode cX7_numberEnd 88 = .ok (.iconst 2, 1) := by decide +kernel
theorem dX7_numberEnd_89 : decode cX7_numberEnd 89 = .ok (.iadd, 1) := by decide +kernel
theorem dX7_numberEnd_90 : decode cX7_numberEnd 90 = .ok (.goto 6, 3) := by decide +kernel
theorem dX7_numberEnd_93 : decode cX7_numberEnd 93 = .ok (.iload_n 1, 1) := by decide +kernel
theorem dX7_numberEnd_94 : decode cX7_numberEnd 94 = .ok (.iconst 1, 1) := by decide +kernel
theorem dX7_numberEnd_95 : decode cX7_numberEnd 95 = .ok (.iadd, 1) := by decide +kernel
theorem dX7_numberEnd_96 : decode cX7_numberEnd 96 = .ok (.ireturn, 1) := by decide +kernel
set_option maxRecDepth 20000 in
theorem ggX7_numberIn_X7_digit : GoodIn wsX7_numberIn wsX7_digit := goodIn_r _ [5, 6, 7, 8, 4, 9, 10, 11, 12, 13, 14, 15, 16, 17, 18, 19, 20, 21, 22, 23, 24, 25] (by decide +kernel) (by decide +kernel)
set_option maxRecDepth 20000 in
theorem gX7_numberIn_X7_digit : GoodIn wsX7_numberIn (wsV RX7 123 RX7 yX7_digit wsX7_digit) := goodIn_app (goodIn_of _ (by decide +kernel)) ggX7_numberIn_X7_digit
theorem dX7_numberIn_0 : decode cX7_numberIn 0 = .ok (.iload_n 2, 1) := by decide +kernel
theorem dX7_numberIn_1 : decode cX7_numberIn 1 = .ok (.iload_n 1, 1) := by decide +kernel
theorem dX7_numberIn_2 : decode cX7_numberIn 2 = .ok (.iconst 1, 1) := by decide +kernel
theorem dX7_numberIn_3 : decode cX7_numberIn 3 = .ok (.iadd, 1) := by decide +kernel
theorem dX7_numberIn_4 : decode cX7_numberIn 4 = .ok (.if_icmp .ne 11, 3) := by decide +kernel
theorem dX7_numberIn_7 : decode cX7_numberIn 7 = .ok (.aload_n 0, 1) := by decide +kernel
theorem dX7_numberIn_8 : decode cX7_numberIn 8 = .ok (.iload_n 1, 1) := by decide +kernel
theorem dX7_numberIn_9 : decode cX7_numberIn 9 = .ok (.invokevirtual 123, 3) := by decide +kernel
theorem dX7_numberIn_12 : decode cX7_numberIn 12 = .ok (.goto 19, 3) := by decide +kernel
theorem dX7_numberIn_15 : decode cX7_numberIn 15 = .ok (.bipush 10, 2) := by decide +kernel
theorem dX7_numberIn_17 : decode cX7_numberIn 17 = .ok (.aload_n 0, 1) := by decide +kernel
theorem dX7_numberIn_18 : decode cX7_numberIn 18 = .ok (.iload_n 1, 1) := by decide +kernel
theorem dX7_numberIn_19 : decode cX7_numberIn 19 = .ok (.invokevirtual 123, 3) := by decide +kernel
theorem dX7_numberIn_22 : decode cX7_numberIn 22 = .ok (.imul, 1) := by decide +kernel
theorem dX7_numberIn_23 : decode cX7_numberIn 23 = .ok (.aload_n 0, 1) := by decide +kernel
theorem dX7_numberIn_24 : decode cX7_numberIn 24 = .ok (.iload_n 1, 1) := by decide +kernel
theorem dX7_numberIn_25 : decode cX7_numberIn 25 = .ok (.iconst 1, 1) := by decide +kernel
theorem dX7_numberIn_26 : decode cX7_numberIn 26 = .ok (.iadd, 1) := by decide +kernel
theorem dX7_numberIn_27 : decode cX7_numberIn 27 = .ok (.invokevirtual 123, 3) := by decide +kernel
theorem dX7_numberIn_30 : decode cX7_numberIn 30 = .ok (.iadd, 1) := by decide +kernel
theorem dX7_numberIn_31 : decode cX7_numberIn 31 = .ok (.ireturn, 1) := by decide +kernel
set_option maxRecDepth 20000 in
theorem ggX7_behind_X7_sign : GoodIn wsX7_behind wsX7_sign := goodIn_r _ [5, 6, 7, 8, 9, 10, 11, 12, 13, 14, 15, 16, 17, 18] (by decide +kernel) (by decide +kernel)
set_option maxRecDepth 20000 in
theorem gX7_behind_X7_sign : GoodIn wsX7_behind (wsV RX7 120 RX7 yX7_sign wsX7_sign) := goodIn_app (goodIn_of _ (by decide +kernel)) ggX7_behind_X7_sign
theorem dX7_behind_0 : decode cX7_behind 0 = .ok (.iload_n 1, 1) := by decide +kernel
theorem dX7_behind_1 : decode cX7_behind 1 = .ok (.ifCond .ge 7, 3) := by decide +kernel
theorem dX7_behind_4 : decode cX7_behind 4 = .ok (.iload_n 1, 1) := by decide +kernel
theorem dX7_behind_5 : decode cX7_behind 5 = .ok (.goto 21, 3) := by decide +kernel
theorem dX7_behind_8 : decode cX7_behind 8 = .ok (.aload_n 0, 1) := by decide +kernel
theorem dX7_behind_9 : decode cX7_behind 9 = .ok (.iload_n 1, 1) := by decide +kernel
theorem dX7_behind_10 : decode cX7_behind 10 = .ok (.invokevirtual 120, 3) := by decide +kernel
theorem dX7_behind_13 : decode cX7_behind 13 = .ok (.iload_n 2, 1) := by decide +kernel
theorem dX7_behind_14 : decode cX7_behind 14 = .ok (.if_icmp .ne 9, 3) := by decide +kernel
theorem dX7_behind_17 : decode cX7_behind 17 = .ok (.iload_n 1, 1) := by decide +kernel
theorem dX7_behind_18 : decode cX7_behind 18 = .ok (.iconst 1, 1) := by decide +kernel
theorem dX7_behind_19 : decode cX7_behind 19 = .ok (.iadd, 1) := by decide +kernel
theorem dX7_behind_20 : decode cX7_behind 20 = .ok (.goto 6, 3) := by decide +kernel
theorem dX7_behind_23 : decode cX7_behind 23 = .ok (.iconst (-1), 1) := by decide +kernel
theorem dX7_behind_24 : decode cX7_behind 24 = .ok (.iload_n 1, 1) := by decide +kernel
theorem dX7_behind_25 : decode cX7_behind 25 = .ok (.isub, 1) := by decide +kernel
theorem dX7_behind_26 : decode cX7_behind 26 = .ok (.ireturn, 1) := by decide +kernel
set_option maxRecDepth 20000 in
theorem ggX7_headEnd_X7_numberEnd : GoodIn wsX7_headEnd wsX7_numberEnd := goodIn_r _ [5, 6, 7, 8, 4, 9, 10, 11, 12, 13, 14, 15, 16, 17, 18, 23, 24, 25, 26, 27, 28, 29, 30, 31, 32, 33] (by decide +kernel) (by decide +kernel)
set_option maxRecDepth 20000 in
theorem gX7_headEnd_X7_numberEnd : GoodIn wsX7_headEnd (wsV RX7 126 RX7 yX7_numberEnd wsX7_numberEnd) := goodIn_app (goodIn_of _ (by decide +kernel)) ggX7_headEnd_X7_numberEnd
